section
-- ===== PART A: goes FIRST, ahead of the names: the tables' words, and 'selects' of the private methods out of them =====
/-- a private method of a class that the tables say can be made, by its rows of tables_1 -/
def lw_okq (q : MethodName × Nat) : Prop := (q.1.cls ≠ "java/lang/invoke/MethodHandle" ∧ q.1.cls ≠ "java/lang/invoke/VarHandle") ∧ Cond.instantiable q.1.cls q.2 ∈ tables_1 ∧ Cond.privateMethod q.1 ∈ tables_1 ∧ Cond.instanceMethod q.1 ∈ tables_1
theorem lw_p0 : lw_okq (⟨"CaptureSegments$Memory", "fits", "(II)Z"⟩, 15) := ⟨⟨by decide +kernel, by decide +kernel⟩, List.mem_of_getElem? (i := 19) (by decide +kernel), List.mem_of_getElem? (i := 203) (by decide +kernel), List.mem_of_getElem? (i := 204) (by decide +kernel)⟩
theorem lw_p1 : lw_okq (⟨"CaptureSegments$Memory", "takeSample", "(I)Z"⟩, 15) := ⟨⟨by decide +kernel, by decide +kernel⟩, List.mem_of_getElem? (i := 19) (by decide +kernel), List.mem_of_getElem? (i := 261) (by decide +kernel), List.mem_of_getElem? (i := 262) (by decide +kernel)⟩
theorem lw_p2 : lw_okq (⟨"CaptureSegments$Memory", "detect", "(I)Z"⟩, 15) := ⟨⟨by decide +kernel, by decide +kernel⟩, List.mem_of_getElem? (i := 19) (by decide +kernel), List.mem_of_getElem? (i := 265) (by decide +kernel), List.mem_of_getElem? (i := 266) (by decide +kernel)⟩
theorem lw_p3 : lw_okq (⟨"CaptureSegments$Memory", "detectorAfter", "(III)I"⟩, 15) := ⟨⟨by decide +kernel, by decide +kernel⟩, List.mem_of_getElem? (i := 19) (by decide +kernel), List.mem_of_getElem? (i := 269) (by decide +kernel), List.mem_of_getElem? (i := 270) (by decide +kernel)⟩
theorem lw_p4 : lw_okq (⟨"CaptureSegments$Memory", "beginSegment", "()V"⟩, 15) := ⟨⟨by decide +kernel, by decide +kernel⟩, List.mem_of_getElem? (i := 19) (by decide +kernel), List.mem_of_getElem? (i := 277) (by decide +kernel), List.mem_of_getElem? (i := 278) (by decide +kernel)⟩
theorem lw_p5 : lw_okq (⟨"CaptureSegments$Memory", "completeSegment", "()V"⟩, 15) := ⟨⟨by decide +kernel, by decide +kernel⟩, List.mem_of_getElem? (i := 19) (by decide +kernel), List.mem_of_getElem? (i := 281) (by decide +kernel), List.mem_of_getElem? (i := 282) (by decide +kernel)⟩
theorem lw_p6 : lw_okq (⟨"CaptureSegments$Pad", "readOrder", "()Z"⟩, 9) := ⟨⟨by decide +kernel, by decide +kernel⟩, List.mem_of_getElem? (i := 136) (by decide +kernel), List.mem_of_getElem? (i := 422) (by decide +kernel), List.mem_of_getElem? (i := 423) (by decide +kernel)⟩
theorem lw_p7 : lw_okq (⟨"CaptureSegments$Pad", "code", "()I"⟩, 9) := ⟨⟨by decide +kernel, by decide +kernel⟩, List.mem_of_getElem? (i := 136) (by decide +kernel), List.mem_of_getElem? (i := 426) (by decide +kernel), List.mem_of_getElem? (i := 427) (by decide +kernel)⟩
theorem lw_p8 : lw_okq (⟨"CaptureSegments$Pad", "readKind", "()Z"⟩, 9) := ⟨⟨by decide +kernel, by decide +kernel⟩, List.mem_of_getElem? (i := 136) (by decide +kernel), List.mem_of_getElem? (i := 430) (by decide +kernel), List.mem_of_getElem? (i := 431) (by decide +kernel)⟩
theorem lw_p9 : lw_okq (⟨"CaptureSegments$Pad", "addStep", "(III)V"⟩, 9) := ⟨⟨by decide +kernel, by decide +kernel⟩, List.mem_of_getElem? (i := 136) (by decide +kernel), List.mem_of_getElem? (i := 434) (by decide +kernel), List.mem_of_getElem? (i := 435) (by decide +kernel)⟩
theorem lw_p10 : lw_okq (⟨"CaptureSegments$Pad", "readLevel", "()Z"⟩, 9) := ⟨⟨by decide +kernel, by decide +kernel⟩, List.mem_of_getElem? (i := 136) (by decide +kernel), List.mem_of_getElem? (i := 438) (by decide +kernel), List.mem_of_getElem? (i := 439) (by decide +kernel)⟩
theorem lw_p11 : lw_okq (⟨"CaptureSegments$Pad", "readValue", "()Z"⟩, 9) := ⟨⟨by decide +kernel, by decide +kernel⟩, List.mem_of_getElem? (i := 136) (by decide +kernel), List.mem_of_getElem? (i := 442) (by decide +kernel), List.mem_of_getElem? (i := 443) (by decide +kernel)⟩
theorem lw_p12 : lw_okq (⟨"CaptureSegments$Pad", "readNumber", "()Z"⟩, 9) := ⟨⟨by decide +kernel, by decide +kernel⟩, List.mem_of_getElem? (i := 136) (by decide +kernel), List.mem_of_getElem? (i := 446) (by decide +kernel), List.mem_of_getElem? (i := 447) (by decide +kernel)⟩
theorem lw_p13 : lw_okq (⟨"CaptureSegments$Pad", "readSample", "()Z"⟩, 9) := ⟨⟨by decide +kernel, by decide +kernel⟩, List.mem_of_getElem? (i := 136) (by decide +kernel), List.mem_of_getElem? (i := 453) (by decide +kernel), List.mem_of_getElem? (i := 454) (by decide +kernel)⟩
theorem lw_p14 : lw_okq (⟨"CaptureSegments", "carryOutStep", "(I)I"⟩, 4) := ⟨⟨by decide +kernel, by decide +kernel⟩, List.mem_of_getElem? (i := 11) (by decide +kernel), List.mem_of_getElem? (i := 461) (by decide +kernel), List.mem_of_getElem? (i := 462) (by decide +kernel)⟩
theorem lw_p15 : lw_okq (⟨"CaptureSegmentsModel", "keep", "()V"⟩, 13) := ⟨⟨by decide +kernel, by decide +kernel⟩, List.mem_of_getElem? (i := 501) (by decide +kernel), List.mem_of_getElem? (i := 551) (by decide +kernel), List.mem_of_getElem? (i := 552) (by decide +kernel)⟩
def lw_privs_1 : List (MethodName × Nat) := [(⟨"CaptureSegments$Memory", "fits", "(II)Z"⟩, 15), (⟨"CaptureSegments$Memory", "takeSample", "(I)Z"⟩, 15), (⟨"CaptureSegments$Memory", "detect", "(I)Z"⟩, 15), (⟨"CaptureSegments$Memory", "detectorAfter", "(III)I"⟩, 15), (⟨"CaptureSegments$Memory", "beginSegment", "()V"⟩, 15), (⟨"CaptureSegments$Memory", "completeSegment", "()V"⟩, 15), (⟨"CaptureSegments$Pad", "readOrder", "()Z"⟩, 9), (⟨"CaptureSegments$Pad", "code", "()I"⟩, 9), (⟨"CaptureSegments$Pad", "readKind", "()Z"⟩, 9), (⟨"CaptureSegments$Pad", "addStep", "(III)V"⟩, 9), (⟨"CaptureSegments$Pad", "readLevel", "()Z"⟩, 9), (⟨"CaptureSegments$Pad", "readValue", "()Z"⟩, 9), (⟨"CaptureSegments$Pad", "readNumber", "()Z"⟩, 9), (⟨"CaptureSegments$Pad", "readSample", "()Z"⟩, 9), (⟨"CaptureSegments", "carryOutStep", "(I)I"⟩, 4), (⟨"CaptureSegmentsModel", "keep", "()V"⟩, 13)]
theorem lw_r1 : ∀ q ∈ lw_privs_1, lw_okq q := List.forall_mem_cons.mpr ⟨lw_p0, List.forall_mem_cons.mpr ⟨lw_p1, List.forall_mem_cons.mpr ⟨lw_p2, List.forall_mem_cons.mpr ⟨lw_p3, List.forall_mem_cons.mpr ⟨lw_p4, List.forall_mem_cons.mpr ⟨lw_p5, List.forall_mem_cons.mpr ⟨lw_p6, List.forall_mem_cons.mpr ⟨lw_p7, List.forall_mem_cons.mpr ⟨lw_p8, List.forall_mem_cons.mpr ⟨lw_p9, List.forall_mem_cons.mpr ⟨lw_p10, List.forall_mem_cons.mpr ⟨lw_p11, List.forall_mem_cons.mpr ⟨lw_p12, List.forall_mem_cons.mpr ⟨lw_p13, List.forall_mem_cons.mpr ⟨lw_p14, List.forall_mem_cons.mpr ⟨lw_p15, fun _ h => absurd h List.not_mem_nil⟩⟩⟩⟩⟩⟩⟩⟩⟩⟩⟩⟩⟩⟩⟩⟩
theorem lw_p16 : lw_okq (⟨"CaptureSegmentsModel", "doSet", "(II)I"⟩, 13) := ⟨⟨by decide +kernel, by decide +kernel⟩, List.mem_of_getElem? (i := 501) (by decide +kernel), List.mem_of_getElem? (i := 555) (by decide +kernel), List.mem_of_getElem? (i := 556) (by decide +kernel)⟩
theorem lw_p17 : lw_okq (⟨"CaptureSegmentsModel", "dropsOldest", "(I)V"⟩, 13) := ⟨⟨by decide +kernel, by decide +kernel⟩, List.mem_of_getElem? (i := 501) (by decide +kernel), List.mem_of_getElem? (i := 576) (by decide +kernel), List.mem_of_getElem? (i := 577) (by decide +kernel)⟩
theorem lw_p18 : lw_okq (⟨"CaptureSegmentsModel", "takesOut", "(I)V"⟩, 13) := ⟨⟨by decide +kernel, by decide +kernel⟩, List.mem_of_getElem? (i := 501) (by decide +kernel), List.mem_of_getElem? (i := 580) (by decide +kernel), List.mem_of_getElem? (i := 581) (by decide +kernel)⟩
theorem lw_p19 : lw_okq (⟨"CaptureSegmentsModel", "changed", "(I)I"⟩, 13) := ⟨⟨by decide +kernel, by decide +kernel⟩, List.mem_of_getElem? (i := 501) (by decide +kernel), List.mem_of_getElem? (i := 584) (by decide +kernel), List.mem_of_getElem? (i := 585) (by decide +kernel)⟩
theorem lw_p20 : lw_okq (⟨"CaptureSegmentsModel", "doFeed", "(II)I"⟩, 13) := ⟨⟨by decide +kernel, by decide +kernel⟩, List.mem_of_getElem? (i := 501) (by decide +kernel), List.mem_of_getElem? (i := 592) (by decide +kernel), List.mem_of_getElem? (i := 593) (by decide +kernel)⟩
theorem lw_p21 : lw_okq (⟨"CaptureSegmentsModel", "comes", "(I)V"⟩, 13) := ⟨⟨by decide +kernel, by decide +kernel⟩, List.mem_of_getElem? (i := 501) (by decide +kernel), List.mem_of_getElem? (i := 596) (by decide +kernel), List.mem_of_getElem? (i := 597) (by decide +kernel)⟩
theorem lw_p22 : lw_okq (⟨"CaptureSegmentsModel", "isFiring", "(IIII)Z"⟩, 13) := ⟨⟨by decide +kernel, by decide +kernel⟩, List.mem_of_getElem? (i := 501) (by decide +kernel), List.mem_of_getElem? (i := 600) (by decide +kernel), List.mem_of_getElem? (i := 601) (by decide +kernel)⟩
theorem lw_p23 : lw_okq (⟨"CaptureSegmentsModel", "isLongEnough", "()Z"⟩, 13) := ⟨⟨by decide +kernel, by decide +kernel⟩, List.mem_of_getElem? (i := 501) (by decide +kernel), List.mem_of_getElem? (i := 604) (by decide +kernel), List.mem_of_getElem? (i := 605) (by decide +kernel)⟩
theorem lw_p24 : lw_okq (⟨"CaptureSegmentsModel", "hasRoom", "()Z"⟩, 13) := ⟨⟨by decide +kernel, by decide +kernel⟩, List.mem_of_getElem? (i := 501) (by decide +kernel), List.mem_of_getElem? (i := 608) (by decide +kernel), List.mem_of_getElem? (i := 609) (by decide +kernel)⟩
theorem lw_p25 : lw_okq (⟨"CaptureSegmentsModel", "captures", "()V"⟩, 13) := ⟨⟨by decide +kernel, by decide +kernel⟩, List.mem_of_getElem? (i := 501) (by decide +kernel), List.mem_of_getElem? (i := 612) (by decide +kernel), List.mem_of_getElem? (i := 613) (by decide +kernel)⟩
theorem lw_p26 : lw_okq (⟨"CaptureSegmentsModel", "lacking", "()I"⟩, 13) := ⟨⟨by decide +kernel, by decide +kernel⟩, List.mem_of_getElem? (i := 501) (by decide +kernel), List.mem_of_getElem? (i := 616) (by decide +kernel), List.mem_of_getElem? (i := 617) (by decide +kernel)⟩
theorem lw_p27 : lw_okq (⟨"CaptureSegmentsModel", "completes", "()V"⟩, 13) := ⟨⟨by decide +kernel, by decide +kernel⟩, List.mem_of_getElem? (i := 501) (by decide +kernel), List.mem_of_getElem? (i := 620) (by decide +kernel), List.mem_of_getElem? (i := 621) (by decide +kernel)⟩
theorem lw_p28 : lw_okq (⟨"CaptureSegmentsModel", "doClear", "()I"⟩, 13) := ⟨⟨by decide +kernel, by decide +kernel⟩, List.mem_of_getElem? (i := 501) (by decide +kernel), List.mem_of_getElem? (i := 628) (by decide +kernel), List.mem_of_getElem? (i := 629) (by decide +kernel)⟩
theorem lw_p29 : lw_okq (⟨"CaptureSegmentsModel", "isSegment", "(I)Z"⟩, 13) := ⟨⟨by decide +kernel, by decide +kernel⟩, List.mem_of_getElem? (i := 501) (by decide +kernel), List.mem_of_getElem? (i := 636) (by decide +kernel), List.mem_of_getElem? (i := 637) (by decide +kernel)⟩
theorem lw_p30 : lw_okq (⟨"CaptureSegmentsModel", "of", "(II)I"⟩, 13) := ⟨⟨by decide +kernel, by decide +kernel⟩, List.mem_of_getElem? (i := 501) (by decide +kernel), List.mem_of_getElem? (i := 644) (by decide +kernel), List.mem_of_getElem? (i := 645) (by decide +kernel)⟩
theorem lw_p31 : lw_okq (⟨"CaptureSegmentsModel", "least", "(I)I"⟩, 13) := ⟨⟨by decide +kernel, by decide +kernel⟩, List.mem_of_getElem? (i := 501) (by decide +kernel), List.mem_of_getElem? (i := 648) (by decide +kernel), List.mem_of_getElem? (i := 649) (by decide +kernel)⟩
def lw_privs_2 : List (MethodName × Nat) := [(⟨"CaptureSegmentsModel", "doSet", "(II)I"⟩, 13), (⟨"CaptureSegmentsModel", "dropsOldest", "(I)V"⟩, 13), (⟨"CaptureSegmentsModel", "takesOut", "(I)V"⟩, 13), (⟨"CaptureSegmentsModel", "changed", "(I)I"⟩, 13), (⟨"CaptureSegmentsModel", "doFeed", "(II)I"⟩, 13), (⟨"CaptureSegmentsModel", "comes", "(I)V"⟩, 13), (⟨"CaptureSegmentsModel", "isFiring", "(IIII)Z"⟩, 13), (⟨"CaptureSegmentsModel", "isLongEnough", "()Z"⟩, 13), (⟨"CaptureSegmentsModel", "hasRoom", "()Z"⟩, 13), (⟨"CaptureSegmentsModel", "captures", "()V"⟩, 13), (⟨"CaptureSegmentsModel", "lacking", "()I"⟩, 13), (⟨"CaptureSegmentsModel", "completes", "()V"⟩, 13), (⟨"CaptureSegmentsModel", "doClear", "()I"⟩, 13), (⟨"CaptureSegmentsModel", "isSegment", "(I)Z"⟩, 13), (⟨"CaptureSegmentsModel", "of", "(II)I"⟩, 13), (⟨"CaptureSegmentsModel", "least", "(I)I"⟩, 13)]
theorem lw_r2 : ∀ q ∈ lw_privs_2, lw_okq q := List.forall_mem_cons.mpr ⟨lw_p16, List.forall_mem_cons.mpr ⟨lw_p17, List.forall_mem_cons.mpr ⟨lw_p18, List.forall_mem_cons.mpr ⟨lw_p19, List.forall_mem_cons.mpr ⟨lw_p20, List.forall_mem_cons.mpr ⟨lw_p21, List.forall_mem_cons.mpr ⟨lw_p22, List.forall_mem_cons.mpr ⟨lw_p23, List.forall_mem_cons.mpr ⟨lw_p24, List.forall_mem_cons.mpr ⟨lw_p25, List.forall_mem_cons.mpr ⟨lw_p26, List.forall_mem_cons.mpr ⟨lw_p27, List.forall_mem_cons.mpr ⟨lw_p28, List.forall_mem_cons.mpr ⟨lw_p29, List.forall_mem_cons.mpr ⟨lw_p30, List.forall_mem_cons.mpr ⟨lw_p31, fun _ h => absurd h List.not_mem_nil⟩⟩⟩⟩⟩⟩⟩⟩⟩⟩⟩⟩⟩⟩⟩⟩
theorem lw_p32 : lw_okq (⟨"CaptureSegmentsModel", "sampleAt", "(II)I"⟩, 13) := ⟨⟨by decide +kernel, by decide +kernel⟩, List.mem_of_getElem? (i := 501) (by decide +kernel), List.mem_of_getElem? (i := 652) (by decide +kernel), List.mem_of_getElem? (i := 653) (by decide +kernel)⟩
theorem lw_p33 : lw_okq (⟨"CaptureSegmentsModel", "numberOf", "(II)I"⟩, 13) := ⟨⟨by decide +kernel, by decide +kernel⟩, List.mem_of_getElem? (i := 501) (by decide +kernel), List.mem_of_getElem? (i := 656) (by decide +kernel), List.mem_of_getElem? (i := 657) (by decide +kernel)⟩
theorem lw_p34 : lw_okq (⟨"CaptureSegmentsModel", "greatest", "(I)I"⟩, 13) := ⟨⟨by decide +kernel, by decide +kernel⟩, List.mem_of_getElem? (i := 501) (by decide +kernel), List.mem_of_getElem? (i := 660) (by decide +kernel), List.mem_of_getElem? (i := 661) (by decide +kernel)⟩
theorem lw_p35 : lw_okq (⟨"CaptureSegmentsModel", "sumOf", "(I)I"⟩, 13) := ⟨⟨by decide +kernel, by decide +kernel⟩, List.mem_of_getElem? (i := 501) (by decide +kernel), List.mem_of_getElem? (i := 664) (by decide +kernel), List.mem_of_getElem? (i := 665) (by decide +kernel)⟩
theorem lw_p36 : lw_okq (⟨"CaptureSegmentsModel", "risesIn", "(I)I"⟩, 13) := ⟨⟨by decide +kernel, by decide +kernel⟩, List.mem_of_getElem? (i := 501) (by decide +kernel), List.mem_of_getElem? (i := 668) (by decide +kernel), List.mem_of_getElem? (i := 669) (by decide +kernel)⟩
theorem lw_p37 : lw_okq (⟨"CaptureSegmentsModel", "phase", "()I"⟩, 13) := ⟨⟨by decide +kernel, by decide +kernel⟩, List.mem_of_getElem? (i := 501) (by decide +kernel), List.mem_of_getElem? (i := 686) (by decide +kernel), List.mem_of_getElem? (i := 687) (by decide +kernel)⟩
theorem lw_p38 : lw_okq (⟨"CaptureSegmentsModel", "isLevel", "(I)Z"⟩, 13) := ⟨⟨by decide +kernel, by decide +kernel⟩, List.mem_of_getElem? (i := 501) (by decide +kernel), List.mem_of_getElem? (i := 694) (by decide +kernel), List.mem_of_getElem? (i := 695) (by decide +kernel)⟩
theorem lw_p39 : lw_okq (⟨"CaptureSegmentsModel", "firings", "(I)I"⟩, 13) := ⟨⟨by decide +kernel, by decide +kernel⟩, List.mem_of_getElem? (i := 501) (by decide +kernel), List.mem_of_getElem? (i := 698) (by decide +kernel), List.mem_of_getElem? (i := 699) (by decide +kernel)⟩
theorem lw_p40 : lw_okq (⟨"CaptureSegmentsModel", "unlikeOf", "(II)I"⟩, 13) := ⟨⟨by decide +kernel, by decide +kernel⟩, List.mem_of_getElem? (i := 501) (by decide +kernel), List.mem_of_getElem? (i := 710) (by decide +kernel), List.mem_of_getElem? (i := 711) (by decide +kernel)⟩
theorem lw_p41 : lw_okq (⟨"CaptureSegmentsModel", "readsOrder", "()Z"⟩, 13) := ⟨⟨by decide +kernel, by decide +kernel⟩, List.mem_of_getElem? (i := 501) (by decide +kernel), List.mem_of_getElem? (i := 733) (by decide +kernel), List.mem_of_getElem? (i := 734) (by decide +kernel)⟩
theorem lw_p42 : lw_okq (⟨"CaptureSegmentsModel", "takes", "(I)Z"⟩, 13) := ⟨⟨by decide +kernel, by decide +kernel⟩, List.mem_of_getElem? (i := 501) (by decide +kernel), List.mem_of_getElem? (i := 737) (by decide +kernel), List.mem_of_getElem? (i := 738) (by decide +kernel)⟩
theorem lw_p43 : lw_okq (⟨"CaptureSegmentsModel", "isHere", "(II)Z"⟩, 13) := ⟨⟨by decide +kernel, by decide +kernel⟩, List.mem_of_getElem? (i := 501) (by decide +kernel), List.mem_of_getElem? (i := 741) (by decide +kernel), List.mem_of_getElem? (i := 742) (by decide +kernel)⟩
theorem lw_p44 : lw_okq (⟨"CaptureSegmentsModel", "does", "(I)V"⟩, 13) := ⟨⟨by decide +kernel, by decide +kernel⟩, List.mem_of_getElem? (i := 501) (by decide +kernel), List.mem_of_getElem? (i := 745) (by decide +kernel), List.mem_of_getElem? (i := 746) (by decide +kernel)⟩
theorem lw_p45 : lw_okq (⟨"CaptureSegmentsModel", "readsValue", "()Z"⟩, 13) := ⟨⟨by decide +kernel, by decide +kernel⟩, List.mem_of_getElem? (i := 501) (by decide +kernel), List.mem_of_getElem? (i := 749) (by decide +kernel), List.mem_of_getElem? (i := 750) (by decide +kernel)⟩
theorem lw_p46 : lw_okq (⟨"CaptureSegmentsModel", "readsNumber", "()Z"⟩, 13) := ⟨⟨by decide +kernel, by decide +kernel⟩, List.mem_of_getElem? (i := 501) (by decide +kernel), List.mem_of_getElem? (i := 753) (by decide +kernel), List.mem_of_getElem? (i := 754) (by decide +kernel)⟩
theorem lw_p47 : lw_okq (⟨"CaptureSegmentsModel", "readsSamples", "()Z"⟩, 13) := ⟨⟨by decide +kernel, by decide +kernel⟩, List.mem_of_getElem? (i := 501) (by decide +kernel), List.mem_of_getElem? (i := 757) (by decide +kernel), List.mem_of_getElem? (i := 758) (by decide +kernel)⟩
def lw_privs_3 : List (MethodName × Nat) := [(⟨"CaptureSegmentsModel", "sampleAt", "(II)I"⟩, 13), (⟨"CaptureSegmentsModel", "numberOf", "(II)I"⟩, 13), (⟨"CaptureSegmentsModel", "greatest", "(I)I"⟩, 13), (⟨"CaptureSegmentsModel", "sumOf", "(I)I"⟩, 13), (⟨"CaptureSegmentsModel", "risesIn", "(I)I"⟩, 13), (⟨"CaptureSegmentsModel", "phase", "()I"⟩, 13), (⟨"CaptureSegmentsModel", "isLevel", "(I)Z"⟩, 13), (⟨"CaptureSegmentsModel", "firings", "(I)I"⟩, 13), (⟨"CaptureSegmentsModel", "unlikeOf", "(II)I"⟩, 13), (⟨"CaptureSegmentsModel", "readsOrder", "()Z"⟩, 13), (⟨"CaptureSegmentsModel", "takes", "(I)Z"⟩, 13), (⟨"CaptureSegmentsModel", "isHere", "(II)Z"⟩, 13), (⟨"CaptureSegmentsModel", "does", "(I)V"⟩, 13), (⟨"CaptureSegmentsModel", "readsValue", "()Z"⟩, 13), (⟨"CaptureSegmentsModel", "readsNumber", "()Z"⟩, 13), (⟨"CaptureSegmentsModel", "readsSamples", "()Z"⟩, 13)]
theorem lw_r3 : ∀ q ∈ lw_privs_3, lw_okq q := List.forall_mem_cons.mpr ⟨lw_p32, List.forall_mem_cons.mpr ⟨lw_p33, List.forall_mem_cons.mpr ⟨lw_p34, List.forall_mem_cons.mpr ⟨lw_p35, List.forall_mem_cons.mpr ⟨lw_p36, List.forall_mem_cons.mpr ⟨lw_p37, List.forall_mem_cons.mpr ⟨lw_p38, List.forall_mem_cons.mpr ⟨lw_p39, List.forall_mem_cons.mpr ⟨lw_p40, List.forall_mem_cons.mpr ⟨lw_p41, List.forall_mem_cons.mpr ⟨lw_p42, List.forall_mem_cons.mpr ⟨lw_p43, List.forall_mem_cons.mpr ⟨lw_p44, List.forall_mem_cons.mpr ⟨lw_p45, List.forall_mem_cons.mpr ⟨lw_p46, List.forall_mem_cons.mpr ⟨lw_p47, fun _ h => absurd h List.not_mem_nil⟩⟩⟩⟩⟩⟩⟩⟩⟩⟩⟩⟩⟩⟩⟩⟩
def lw_privs : List (MethodName × Nat) := lw_privs_1 ++ (lw_privs_2 ++ (lw_privs_3))
def lw_tbl : List Cond := k2_sels lw_privs ++ tables_1
theorem lw_privs_ok : ∀ q ∈ lw_privs, lw_okq q := by
  show ∀ q ∈ lw_privs_1 ++ (lw_privs_2 ++ (lw_privs_3)), lw_okq q
  exact List.forall_mem_append.mpr ⟨lw_r1, List.forall_mem_append.mpr ⟨lw_r2, lw_r3⟩⟩

/-! ===== BEGIN words of one list among another's, by their places ===== -/
theorem goodIn_r {big : List Cond} (ws : List Cond) (ps : List Nat) (hp : ws = ps.filterMap (fun i => big[i]?)) (h : ws.all goodWord = true) : GoodIn big ws := by
  intro w hw
  have h1 := List.all_eq_true.mp h w hw
  rw [hp] at hw
  obtain ⟨i, -, hi⟩ := List.mem_filterMap.mp hw
  have hm : w ∈ big := by first | exact List.mem_of_getElem? hi | exact List.getElem?_mem hi
  exact ⟨hm, good_of_word h1⟩
theorem goodIn_app {big a b : List Cond} (ha : GoodIn big a) (hb : GoodIn big b) : GoodIn big (a ++ b) := fun w h => (List.mem_append.mp h).elim (ha w) (hb w)
theorem goodIn_ca {big a b : List Cond} {c : Cond} (ha : GoodIn big (c :: a)) (hb : GoodIn big b) : GoodIn big (c :: (a ++ b)) := fun w h => (List.mem_cons.mp h).elim (fun e => ha w (List.mem_cons.mpr (Or.inl e))) (fun h => (List.mem_append.mp h).elim (fun h => ha w (List.mem_cons.mpr (Or.inr h))) (hb w))
theorem goodIn_sub {big ws : List Cond} (hm : ∀ w ∈ ws, w ∈ big) (h : ws.all goodWord = true) : GoodIn big ws := fun w hw => ⟨hm w hw, good_of_word (List.all_eq_true.mp h w hw)⟩
/-! ===== END ===== -/

/-! ===== BEGIN printed: names, fields, word lists, decode rows ===== -/
def RX0 : String := "CaptureSegments$History"
def TX0 : u_T := fun k => match k with
  | 0 => ("CaptureSegments$History", "states", "[LCaptureSegments$Memory;", true)
  | 1 => ("CaptureSegments$History", "next", "I", false)
  | _ => ("CaptureSegments$History", "size", "I", false)
def tyX0 : Nat → FieldType := fun k => match k with
  | 0 => .array (.object "CaptureSegments$Memory")
  | 1 => .int
  | _ => .int
abbrev wsX00 : List Cond := u_ws RX0 TX0 3
theorem nmX0 : ∀ a, a < 3 → ∀ b, b < 3 → a ≠ b → (TX0 a).2.1 ≠ (TX0 b).2.1 := by decide +kernel
theorem tyX0_ok : ∀ k, k < 3 → parseFieldDescriptor (TX0 k).2.2.1 = some (tyX0 k) := by decide +kernel
abbrev cX0_init : ByteArray := prog_2_method_1_code
def yX0_init : MethodName := ⟨RX0, "<init>", "()V"⟩
abbrev cX0_record : ByteArray := prog_2_method_2_code
def yX0_record : MethodName := ⟨RX0, "record", "(LCaptureSegments$Memory;)V"⟩
abbrev cX0_bringBack : ByteArray := prog_2_method_3_code
def yX0_bringBack : MethodName := ⟨RX0, "bringBack", "(LCaptureSegments$Memory;)V"⟩
def RX1 : String := "CaptureSegments$Memory"
def TX1 : u_T := fun k => match k with
  | 0 => ("CaptureSegments$Memory", "settings", "[I", true)
  | 1 => ("CaptureSegments$Memory", "samples", "[I", true)
  | 2 => ("CaptureSegments$Memory", "segments", "LCaptureSegments$Segments;", true)
  | 3 => ("CaptureSegments$Memory", "samplesSoFar", "I", false)
  | 4 => ("CaptureSegments$Memory", "detector", "I", false)
  | 5 => ("CaptureSegments$Memory", "firings", "I", false)
  | 6 => ("CaptureSegments$Memory", "triggers", "I", false)
  | 7 => ("CaptureSegments$Memory", "ignored", "I", false)
  | 8 => ("CaptureSegments$Memory", "completed", "I", false)
  | 9 => ("CaptureSegments$Memory", "since", "I", false)
  | 10 => ("CaptureSegments$Memory", "capturedTrigger", "I", false)
  | 11 => ("CaptureSegments$Memory", "capturedDepth", "I", false)
  | 12 => ("CaptureSegments$Memory", "capturedPre", "I", false)
  | 13 => ("CaptureSegments$Memory", "capturedKind", "I", false)
  | _ => ("CaptureSegments$Memory", "yetToGet", "I", false)
def tyX1 : Nat → FieldType := fun k => match k with
  | 0 => .array .int
  | 1 => .array .int
  | 2 => .object "CaptureSegments$Segments"
  | 3 => .int
  | 4 => .int
  | 5 => .int
  | 6 => .int
  | 7 => .int
  | 8 => .int
  | 9 => .int
  | 10 => .int
  | 11 => .int
  | 12 => .int
  | 13 => .int
  | _ => .int
abbrev wsX10 : List Cond := u_ws RX1 TX1 15
theorem nmX1 : ∀ a, a < 15 → ∀ b, b < 15 → a ≠ b → (TX1 a).2.1 ≠ (TX1 b).2.1 := by decide +kernel
theorem tyX1_ok : ∀ k, k < 15 → parseFieldDescriptor (TX1 k).2.2.1 = some (tyX1 k) := by decide +kernel
abbrev cX1_init : ByteArray := prog_3_method_1_code
def yX1_init : MethodName := ⟨RX1, "<init>", "()V"⟩
abbrev cX1_takeOver : ByteArray := prog_3_method_2_code
def yX1_takeOver : MethodName := ⟨RX1, "takeOver", "(LCaptureSegments$Memory;)V"⟩
abbrev cX1_settingOf : ByteArray := prog_3_method_3_code
def yX1_settingOf : MethodName := ⟨RX1, "settingOf", "(I)I"⟩
abbrev cX1_errorOfSetting : ByteArray := prog_3_method_4_code
def yX1_errorOfSetting : MethodName := ⟨RX1, "errorOfSetting", "(II)I"⟩
abbrev cX1_fits : ByteArray := prog_3_method_5_code
def yX1_fits : MethodName := ⟨RX1, "fits", "(II)Z"⟩
abbrev cX1_changeSetting : ByteArray := prog_3_method_6_code
def yX1_changeSetting : MethodName := ⟨RX1, "changeSetting", "(II)I"⟩
abbrev cX1_errorOfSamples : ByteArray := prog_3_method_7_code
def yX1_errorOfSamples : MethodName := ⟨RX1, "errorOfSamples", "(II)I"⟩
abbrev cX1_takeSamples : ByteArray := prog_3_method_8_code
def yX1_takeSamples : MethodName := ⟨RX1, "takeSamples", "(II)I"⟩
abbrev cX1_takeSample : ByteArray := prog_3_method_9_code
def yX1_takeSample : MethodName := ⟨RX1, "takeSample", "(I)Z"⟩
abbrev cX1_detect : ByteArray := prog_3_method_10_code
def yX1_detect : MethodName := ⟨RX1, "detect", "(I)Z"⟩
abbrev cX1_detectorAfter : ByteArray := prog_3_method_11_code
def yX1_detectorAfter : MethodName := ⟨RX1, "detectorAfter", "(III)I"⟩
abbrev cX1_beginSegment : ByteArray := prog_3_method_12_code
def yX1_beginSegment : MethodName := ⟨RX1, "beginSegment", "()V"⟩
abbrev cX1_completeSegment : ByteArray := prog_3_method_13_code
def yX1_completeSegment : MethodName := ⟨RX1, "completeSegment", "()V"⟩
abbrev cX1_forget : ByteArray := prog_3_method_14_code
def yX1_forget : MethodName := ⟨RX1, "forget", "()I"⟩
abbrev cX1_phase : ByteArray := prog_3_method_15_code
def yX1_phase : MethodName := ⟨RX1, "phase", "()I"⟩
abbrev cX1_numberOf : ByteArray := prog_3_method_16_code
def yX1_numberOf : MethodName := ⟨RX1, "numberOf", "(I)I"⟩
abbrev cX1_sampleAt : ByteArray := prog_3_method_17_code
def yX1_sampleAt : MethodName := ⟨RX1, "sampleAt", "(I)I"⟩
abbrev cX1_leastOf : ByteArray := prog_3_method_18_code
def yX1_leastOf : MethodName := ⟨RX1, "leastOf", "(I)I"⟩
abbrev cX1_greatestOf : ByteArray := prog_3_method_19_code
def yX1_greatestOf : MethodName := ⟨RX1, "greatestOf", "(I)I"⟩
abbrev cX1_sumOf : ByteArray := prog_3_method_20_code
def yX1_sumOf : MethodName := ⟨RX1, "sumOf", "(I)I"⟩
abbrev cX1_upsOf : ByteArray := prog_3_method_21_code
def yX1_upsOf : MethodName := ⟨RX1, "upsOf", "(I)I"⟩
abbrev cX1_greatestLevel : ByteArray := prog_3_method_22_code
def yX1_greatestLevel : MethodName := ⟨RX1, "greatestLevel", "()I"⟩
abbrev cX1_firingsWith : ByteArray := prog_3_method_23_code
def yX1_firingsWith : MethodName := ⟨RX1, "firingsWith", "(I)I"⟩
abbrev cX1_differenceOf : ByteArray := prog_3_method_24_code
def yX1_differenceOf : MethodName := ⟨RX1, "differenceOf", "(II)I"⟩
def RX2 : String := "CaptureSegments$Pad"
def TX2 : u_T := fun k => match k with
  | 0 => ("CaptureSegments$Pad", "codes", "[I", true)
  | 1 => ("CaptureSegments$Pad", "length", "I", false)
  | 2 => ("CaptureSegments$Pad", "actions", "[I", true)
  | 3 => ("CaptureSegments$Pad", "values", "[I", true)
  | 4 => ("CaptureSegments$Pad", "times", "[I", true)
  | 5 => ("CaptureSegments$Pad", "ends", "[I", true)
  | 6 => ("CaptureSegments$Pad", "steps", "I", false)
  | 7 => ("CaptureSegments$Pad", "place", "I", false)
  | _ => ("CaptureSegments$Pad", "number", "I", false)
def tyX2 : Nat → FieldType := fun k => match k with
  | 0 => .array .int
  | 1 => .int
  | 2 => .array .int
  | 3 => .array .int
  | 4 => .array .int
  | 5 => .array .int
  | 6 => .int
  | 7 => .int
  | _ => .int
abbrev wsX20 : List Cond := u_ws RX2 TX2 9
theorem nmX2 : ∀ a, a < 9 → ∀ b, b < 9 → a ≠ b → (TX2 a).2.1 ≠ (TX2 b).2.1 := by decide +kernel
theorem tyX2_ok : ∀ k, k < 9 → parseFieldDescriptor (TX2 k).2.2.1 = some (tyX2 k) := by decide +kernel
abbrev cX2_init : ByteArray := prog_4_method_1_code
def yX2_init : MethodName := ⟨RX2, "<init>", "()V"⟩
abbrev cX2_numberOfCharacters : ByteArray := prog_4_method_2_code
def yX2_numberOfCharacters : MethodName := ⟨RX2, "numberOfCharacters", "(J)I"⟩
abbrev cX2_append : ByteArray := prog_4_method_3_code
def yX2_append : MethodName := ⟨RX2, "append", "(JI)V"⟩
abbrev cX2_endsOrder : ByteArray := prog_4_method_4_code
def yX2_endsOrder : MethodName := ⟨RX2, "endsOrder", "(I)Z"⟩
abbrev cX2_read : ByteArray := prog_4_method_5_code
def yX2_read : MethodName := ⟨RX2, "read", "()I"⟩
abbrev cX2_readOrder : ByteArray := prog_4_method_6_code
def yX2_readOrder : MethodName := ⟨RX2, "readOrder", "()Z"⟩
abbrev cX2_readKind : ByteArray := prog_4_method_7_code
def yX2_readKind : MethodName := ⟨RX2, "readKind", "()Z"⟩
abbrev cX2_readLevel : ByteArray := prog_4_method_8_code
def yX2_readLevel : MethodName := ⟨RX2, "readLevel", "()Z"⟩
abbrev cX2_readSample : ByteArray := prog_4_method_9_code
def yX2_readSample : MethodName := ⟨RX2, "readSample", "()Z"⟩
abbrev cX2_readValue : ByteArray := prog_4_method_10_code
def yX2_readValue : MethodName := ⟨RX2, "readValue", "()Z"⟩
abbrev cX2_readNumber : ByteArray := prog_4_method_11_code
def yX2_readNumber : MethodName := ⟨RX2, "readNumber", "()Z"⟩
abbrev cX2_isDigit : ByteArray := prog_4_method_12_code
def yX2_isDigit : MethodName := ⟨RX2, "isDigit", "(I)Z"⟩
abbrev cX2_code : ByteArray := prog_4_method_13_code
def yX2_code : MethodName := ⟨RX2, "code", "()I"⟩
abbrev cX2_addStep : ByteArray := prog_4_method_14_code
def yX2_addStep : MethodName := ⟨RX2, "addStep", "(III)V"⟩
def RX3 : String := "CaptureSegments$Segments"
def TX3 : u_T := fun k => match k with
  | 0 => ("CaptureSegments$Segments", "numbers", "[I", true)
  | _ => ("CaptureSegments$Segments", "size", "I", false)
def tyX3 : Nat → FieldType := fun k => match k with
  | 0 => .array .int
  | _ => .int
abbrev wsX30 : List Cond := u_ws RX3 TX3 2
theorem nmX3 : ∀ a, a < 2 → ∀ b, b < 2 → a ≠ b → (TX3 a).2.1 ≠ (TX3 b).2.1 := by decide +kernel
theorem tyX3_ok : ∀ k, k < 2 → parseFieldDescriptor (TX3 k).2.2.1 = some (tyX3 k) := by decide +kernel
abbrev cX3_init : ByteArray := prog_5_method_1_code
def yX3_init : MethodName := ⟨RX3, "<init>", "()V"⟩
abbrev cX3_has : ByteArray := prog_5_method_2_code
def yX3_has : MethodName := ⟨RX3, "has", "(I)Z"⟩
abbrev cX3_numberOf : ByteArray := prog_5_method_3_code
def yX3_numberOf : MethodName := ⟨RX3, "numberOf", "(II)I"⟩
abbrev cX3_firstOf : ByteArray := prog_5_method_4_code
def yX3_firstOf : MethodName := ⟨RX3, "firstOf", "(I)I"⟩
abbrev cX3_behindOf : ByteArray := prog_5_method_5_code
def yX3_behindOf : MethodName := ⟨RX3, "behindOf", "(I)I"⟩
abbrev cX3_append : ByteArray := prog_5_method_6_code
def yX3_append : MethodName := ⟨RX3, "append", "(IIII)V"⟩
abbrev cX3_removeAt : ByteArray := prog_5_method_7_code
def yX3_removeAt : MethodName := ⟨RX3, "removeAt", "(I)V"⟩
abbrev cX3_keepLatest : ByteArray := prog_5_method_8_code
def yX3_keepLatest : MethodName := ⟨RX3, "keepLatest", "(I)V"⟩
abbrev cX3_takeOver : ByteArray := prog_5_method_9_code
def yX3_takeOver : MethodName := ⟨RX3, "takeOver", "(LCaptureSegments$Segments;)V"⟩
def RX4 : String := "CaptureSegments$Slots"
def TX4 : u_T := fun k => match k with
  | 0 => ("CaptureSegments$Slots", "states", "[LCaptureSegments$Memory;", true)
  | _ => ("CaptureSegments$Slots", "saved", "[Z", true)
def tyX4 : Nat → FieldType := fun k => match k with
  | 0 => .array (.object "CaptureSegments$Memory")
  | _ => .array .boolean
abbrev wsX40 : List Cond := u_ws RX4 TX4 2
theorem nmX4 : ∀ a, a < 2 → ∀ b, b < 2 → a ≠ b → (TX4 a).2.1 ≠ (TX4 b).2.1 := by decide +kernel
theorem tyX4_ok : ∀ k, k < 2 → parseFieldDescriptor (TX4 k).2.2.1 = some (tyX4 k) := by decide +kernel
abbrev cX4_init : ByteArray := prog_6_method_1_code
def yX4_init : MethodName := ⟨RX4, "<init>", "()V"⟩
abbrev cX4_holds : ByteArray := prog_6_method_2_code
def yX4_holds : MethodName := ⟨RX4, "holds", "(I)Z"⟩
abbrev cX4_keep : ByteArray := prog_6_method_3_code
def yX4_keep : MethodName := ⟨RX4, "keep", "(ILCaptureSegments$Memory;)V"⟩
abbrev cX4_bringBack : ByteArray := prog_6_method_4_code
def yX4_bringBack : MethodName := ⟨RX4, "bringBack", "(ILCaptureSegments$Memory;)V"⟩
def RX5 : String := "CaptureSegments"
def TX5 : u_T := fun k => match k with
  | 0 => ("CaptureSegments", "memory", "LCaptureSegments$Memory;", true)
  | 1 => ("CaptureSegments", "history", "LCaptureSegments$History;", true)
  | 2 => ("CaptureSegments", "slots", "LCaptureSegments$Slots;", true)
  | _ => ("CaptureSegments", "pad", "LCaptureSegments$Pad;", true)
def tyX5 : Nat → FieldType := fun k => match k with
  | 0 => .object "CaptureSegments$Memory"
  | 1 => .object "CaptureSegments$History"
  | 2 => .object "CaptureSegments$Slots"
  | _ => .object "CaptureSegments$Pad"
abbrev wsX50 : List Cond := u_ws RX5 TX5 4
theorem nmX5 : ∀ a, a < 4 → ∀ b, b < 4 → a ≠ b → (TX5 a).2.1 ≠ (TX5 b).2.1 := by decide +kernel
theorem tyX5_ok : ∀ k, k < 4 → parseFieldDescriptor (TX5 k).2.2.1 = some (tyX5 k) := by decide +kernel
abbrev cX5_init : ByteArray := prog_1_method_1_code
def yX5_init : MethodName := ⟨RX5, "<init>", "()V"⟩
abbrev cX5_set : ByteArray := prog_1_method_2_code
def yX5_set : MethodName := ⟨RX5, "set", "(II)I"⟩
abbrev cX5_feed : ByteArray := prog_1_method_3_code
def yX5_feed : MethodName := ⟨RX5, "feed", "(II)I"⟩
abbrev cX5_clear : ByteArray := prog_1_method_4_code
def yX5_clear : MethodName := ⟨RX5, "clear", "()I"⟩
abbrev cX5_drop : ByteArray := prog_1_method_5_code
def yX5_drop : MethodName := ⟨RX5, "drop", "(I)I"⟩
abbrev cX5_segment : ByteArray := prog_1_method_6_code
def yX5_segment : MethodName := ⟨RX5, "segment", "(II)I"⟩
abbrev cX5_sampleOf : ByteArray := prog_1_method_7_code
def yX5_sampleOf : MethodName := ⟨RX5, "sampleOf", "(II)I"⟩
abbrev cX5_sample : ByteArray := prog_1_method_8_code
def yX5_sample : MethodName := ⟨RX5, "sample", "(I)I"⟩
abbrev cX5_count : ByteArray := prog_1_method_9_code
def yX5_count : MethodName := ⟨RX5, "count", "(I)I"⟩
abbrev cX5_fires : ByteArray := prog_1_method_10_code
def yX5_fires : MethodName := ⟨RX5, "fires", "(I)I"⟩
abbrev cX5_bestLevel : ByteArray := prog_1_method_11_code
def yX5_bestLevel : MethodName := ⟨RX5, "bestLevel", "(I)I"⟩
abbrev cX5_unlike : ByteArray := prog_1_method_12_code
def yX5_unlike : MethodName := ⟨RX5, "unlike", "(II)I"⟩
abbrev cX5_nearest : ByteArray := prog_1_method_13_code
def yX5_nearest : MethodName := ⟨RX5, "nearest", "(I)I"⟩
abbrev cX5_put : ByteArray := prog_1_method_14_code
def yX5_put : MethodName := ⟨RX5, "put", "(J)I"⟩
abbrev cX5_wipe : ByteArray := prog_1_method_15_code
def yX5_wipe : MethodName := ⟨RX5, "wipe", "()I"⟩
abbrev cX5_fault : ByteArray := prog_1_method_16_code
def yX5_fault : MethodName := ⟨RX5, "fault", "()I"⟩
abbrev cX5_carryOut : ByteArray := prog_1_method_17_code
def yX5_carryOut : MethodName := ⟨RX5, "carryOut", "()I"⟩
abbrev cX5_carryOutStep : ByteArray := prog_1_method_18_code
def yX5_carryOutStep : MethodName := ⟨RX5, "carryOutStep", "(I)I"⟩
abbrev cX5_undo : ByteArray := prog_1_method_19_code
def yX5_undo : MethodName := ⟨RX5, "undo", "()I"⟩
abbrev cX5_save : ByteArray := prog_1_method_20_code
def yX5_save : MethodName := ⟨RX5, "save", "(I)I"⟩
abbrev cX5_restore : ByteArray := prog_1_method_21_code
def yX5_restore : MethodName := ⟨RX5, "restore", "(I)I"⟩
abbrev cX5_at : ByteArray := prog_1_method_22_code
def yX5_at : MethodName := ⟨RX5, "at", "([II)I"⟩
abbrev cX5_writeAt : ByteArray := prog_1_method_23_code
def yX5_writeAt : MethodName := ⟨RX5, "writeAt", "([III)V"⟩
abbrev cX5_copyRow : ByteArray := prog_1_method_24_code
def yX5_copyRow : MethodName := ⟨RX5, "copyRow", "([I[I)V"⟩
abbrev cX5_memoryAt : ByteArray := prog_1_method_25_code
def yX5_memoryAt : MethodName := ⟨RX5, "memoryAt", "([LCaptureSegments$Memory;I)LCaptureSegments$Memory;"⟩
def RX6 : String := "CaptureSegmentsModel"
def TX6 : u_T := fun k => match k with
  | 0 => ("CaptureSegmentsModel", "all", "[I", true)
  | 1 => ("CaptureSegmentsModel", "kept", "[I", true)
  | 2 => ("CaptureSegmentsModel", "history", "[I", true)
  | 3 => ("CaptureSegmentsModel", "historyLong", "I", false)
  | 4 => ("CaptureSegmentsModel", "slots", "[I", true)
  | 5 => ("CaptureSegmentsModel", "isSaved", "[I", true)
  | 6 => ("CaptureSegmentsModel", "then", "I", false)
  | 7 => ("CaptureSegmentsModel", "pad", "[I", true)
  | 8 => ("CaptureSegmentsModel", "padLong", "I", false)
  | 9 => ("CaptureSegmentsModel", "spot", "I", false)
  | 10 => ("CaptureSegmentsModel", "number", "I", false)
  | 11 => ("CaptureSegmentsModel", "isDone", "Z", false)
  | _ => ("CaptureSegmentsModel", "error", "I", false)
def tyX6 : Nat → FieldType := fun k => match k with
  | 0 => .array .int
  | 1 => .array .int
  | 2 => .array .int
  | 3 => .int
  | 4 => .array .int
  | 5 => .array .int
  | 6 => .int
  | 7 => .array .int
  | 8 => .int
  | 9 => .int
  | 10 => .int
  | 11 => .boolean
  | _ => .int
abbrev wsX60 : List Cond := u_ws RX6 TX6 13
theorem nmX6 : ∀ a, a < 13 → ∀ b, b < 13 → a ≠ b → (TX6 a).2.1 ≠ (TX6 b).2.1 := by decide +kernel
theorem tyX6_ok : ∀ k, k < 13 → parseFieldDescriptor (TX6 k).2.2.1 = some (tyX6 k) := by decide +kernel
abbrev cX6_init : ByteArray := prog_8_method_1_code
def yX6_init : MethodName := ⟨RX6, "<init>", "()V"⟩
abbrev cX6_in : ByteArray := prog_8_method_3_code
def yX6_in : MethodName := ⟨RX6, "in", "(JJJ)Z"⟩
abbrev cX6_keep : ByteArray := prog_8_method_4_code
def yX6_keep : MethodName := ⟨RX6, "keep", "()V"⟩
abbrev cX6_changed : ByteArray := prog_8_method_5_code
def yX6_changed : MethodName := ⟨RX6, "changed", "(I)I"⟩
abbrev cX6_isFiring : ByteArray := prog_8_method_6_code
def yX6_isFiring : MethodName := ⟨RX6, "isFiring", "(IIII)Z"⟩
abbrev cX6_firings : ByteArray := prog_8_method_7_code
def yX6_firings : MethodName := ⟨RX6, "firings", "(I)I"⟩
abbrev cX6_hasRoom : ByteArray := prog_8_method_8_code
def yX6_hasRoom : MethodName := ⟨RX6, "hasRoom", "()Z"⟩
abbrev cX6_isLongEnough : ByteArray := prog_8_method_9_code
def yX6_isLongEnough : MethodName := ⟨RX6, "isLongEnough", "()Z"⟩
abbrev cX6_takesOut : ByteArray := prog_8_method_10_code
def yX6_takesOut : MethodName := ⟨RX6, "takesOut", "(I)V"⟩
abbrev cX6_dropsOldest : ByteArray := prog_8_method_11_code
def yX6_dropsOldest : MethodName := ⟨RX6, "dropsOldest", "(I)V"⟩
abbrev cX6_captures : ByteArray := prog_8_method_12_code
def yX6_captures : MethodName := ⟨RX6, "captures", "()V"⟩
abbrev cX6_lacking : ByteArray := prog_8_method_13_code
def yX6_lacking : MethodName := ⟨RX6, "lacking", "()I"⟩
abbrev cX6_completes : ByteArray := prog_8_method_14_code
def yX6_completes : MethodName := ⟨RX6, "completes", "()V"⟩
abbrev cX6_comes : ByteArray := prog_8_method_15_code
def yX6_comes : MethodName := ⟨RX6, "comes", "(I)V"⟩
abbrev cX6_isSample : ByteArray := prog_8_method_16_code
def yX6_isSample : MethodName := ⟨RX6, "isSample", "(I)Z"⟩
abbrev cX6_doFeed : ByteArray := prog_8_method_17_code
def yX6_doFeed : MethodName := ⟨RX6, "doFeed", "(II)I"⟩
abbrev cX6_isSetting : ByteArray := prog_8_method_18_code
def yX6_isSetting : MethodName := ⟨RX6, "isSetting", "(II)Z"⟩
abbrev cX6_doSet : ByteArray := prog_8_method_19_code
def yX6_doSet : MethodName := ⟨RX6, "doSet", "(II)I"⟩
abbrev cX6_doClear : ByteArray := prog_8_method_20_code
def yX6_doClear : MethodName := ⟨RX6, "doClear", "()I"⟩
abbrev cX6_set : ByteArray := prog_8_method_21_code
def yX6_set : MethodName := ⟨RX6, "set", "(II)I"⟩
abbrev cX6_feed : ByteArray := prog_8_method_22_code
def yX6_feed : MethodName := ⟨RX6, "feed", "(II)I"⟩
abbrev cX6_clear : ByteArray := prog_8_method_23_code
def yX6_clear : MethodName := ⟨RX6, "clear", "()I"⟩
abbrev cX6_isSegment : ByteArray := prog_8_method_24_code
def yX6_isSegment : MethodName := ⟨RX6, "isSegment", "(I)Z"⟩
abbrev cX6_drop : ByteArray := prog_8_method_25_code
def yX6_drop : MethodName := ⟨RX6, "drop", "(I)I"⟩
abbrev cX6_of : ByteArray := prog_8_method_26_code
def yX6_of : MethodName := ⟨RX6, "of", "(II)I"⟩
abbrev cX6_numberOf : ByteArray := prog_8_method_27_code
def yX6_numberOf : MethodName := ⟨RX6, "numberOf", "(II)I"⟩
abbrev cX6_sampleAt : ByteArray := prog_8_method_28_code
def yX6_sampleAt : MethodName := ⟨RX6, "sampleAt", "(II)I"⟩
abbrev cX6_least : ByteArray := prog_8_method_29_code
def yX6_least : MethodName := ⟨RX6, "least", "(I)I"⟩
abbrev cX6_greatest : ByteArray := prog_8_method_30_code
def yX6_greatest : MethodName := ⟨RX6, "greatest", "(I)I"⟩
abbrev cX6_sumOf : ByteArray := prog_8_method_31_code
def yX6_sumOf : MethodName := ⟨RX6, "sumOf", "(I)I"⟩
abbrev cX6_risesIn : ByteArray := prog_8_method_32_code
def yX6_risesIn : MethodName := ⟨RX6, "risesIn", "(I)I"⟩
abbrev cX6_segment : ByteArray := prog_8_method_33_code
def yX6_segment : MethodName := ⟨RX6, "segment", "(II)I"⟩
abbrev cX6_sampleOf : ByteArray := prog_8_method_34_code
def yX6_sampleOf : MethodName := ⟨RX6, "sampleOf", "(II)I"⟩
abbrev cX6_sample : ByteArray := prog_8_method_35_code
def yX6_sample : MethodName := ⟨RX6, "sample", "(I)I"⟩
abbrev cX6_phase : ByteArray := prog_8_method_36_code
def yX6_phase : MethodName := ⟨RX6, "phase", "()I"⟩
abbrev cX6_count : ByteArray := prog_8_method_37_code
def yX6_count : MethodName := ⟨RX6, "count", "(I)I"⟩
abbrev cX6_isLevel : ByteArray := prog_8_method_38_code
def yX6_isLevel : MethodName := ⟨RX6, "isLevel", "(I)Z"⟩
abbrev cX6_fires : ByteArray := prog_8_method_39_code
def yX6_fires : MethodName := ⟨RX6, "fires", "(I)I"⟩
abbrev cX6_bestLevel : ByteArray := prog_8_method_40_code
def yX6_bestLevel : MethodName := ⟨RX6, "bestLevel", "(I)I"⟩
abbrev cX6_unlikeOf : ByteArray := prog_8_method_41_code
def yX6_unlikeOf : MethodName := ⟨RX6, "unlikeOf", "(II)I"⟩
abbrev cX6_unlike : ByteArray := prog_8_method_42_code
def yX6_unlike : MethodName := ⟨RX6, "unlike", "(II)I"⟩
abbrev cX6_nearest : ByteArray := prog_8_method_43_code
def yX6_nearest : MethodName := ⟨RX6, "nearest", "(I)I"⟩
abbrev cX6_put : ByteArray := prog_8_method_44_code
def yX6_put : MethodName := ⟨RX6, "put", "(J)I"⟩
abbrev cX6_wipe : ByteArray := prog_8_method_45_code
def yX6_wipe : MethodName := ⟨RX6, "wipe", "()I"⟩
abbrev cX6_isHere : ByteArray := prog_8_method_46_code
def yX6_isHere : MethodName := ⟨RX6, "isHere", "(II)Z"⟩
abbrev cX6_takes : ByteArray := prog_8_method_47_code
def yX6_takes : MethodName := ⟨RX6, "takes", "(I)Z"⟩
abbrev cX6_readsNumber : ByteArray := prog_8_method_48_code
def yX6_readsNumber : MethodName := ⟨RX6, "readsNumber", "()Z"⟩
abbrev cX6_readsValue : ByteArray := prog_8_method_49_code
def yX6_readsValue : MethodName := ⟨RX6, "readsValue", "()Z"⟩
abbrev cX6_does : ByteArray := prog_8_method_50_code
def yX6_does : MethodName := ⟨RX6, "does", "(I)V"⟩
abbrev cX6_readsSamples : ByteArray := prog_8_method_51_code
def yX6_readsSamples : MethodName := ⟨RX6, "readsSamples", "()Z"⟩
abbrev cX6_readsOrder : ByteArray := prog_8_method_52_code
def yX6_readsOrder : MethodName := ⟨RX6, "readsOrder", "()Z"⟩
abbrev cX6_fault : ByteArray := prog_8_method_53_code
def yX6_fault : MethodName := ⟨RX6, "fault", "()I"⟩
abbrev cX6_carryOut : ByteArray := prog_8_method_54_code
def yX6_carryOut : MethodName := ⟨RX6, "carryOut", "()I"⟩
abbrev cX6_undo : ByteArray := prog_8_method_55_code
def yX6_undo : MethodName := ⟨RX6, "undo", "()I"⟩
abbrev cX6_save : ByteArray := prog_8_method_56_code
def yX6_save : MethodName := ⟨RX6, "save", "(I)I"⟩
abbrev cX6_restore : ByteArray := prog_8_method_57_code
def yX6_restore : MethodName := ⟨RX6, "restore", "(I)I"⟩
def RJ9 : String := "java/lang/Math"
def TJ9 : u_T := fun k => match k with
  | _ => ("", "", "", false)
def tyJ9 : Nat → FieldType := fun k => match k with
  | _ => .int
abbrev wsJ90 : List Cond := u_ws RJ9 TJ9 0
theorem nmJ9 : ∀ a, a < 0 → ∀ b, b < 0 → a ≠ b → (TJ9 a).2.1 ≠ (TJ9 b).2.1 := by decide +kernel
theorem tyJ9_ok : ∀ k, k < 0 → parseFieldDescriptor (TJ9 k).2.2.1 = some (tyJ9 k) := by decide +kernel
abbrev cJ9_abs_0f7a4 : ByteArray := prog_9_method_59_code
def yJ9_abs_0f7a4 : MethodName := ⟨RJ9, "abs", "(I)I"⟩
abbrev cJ9_max_7cf53 : ByteArray := prog_9_method_65_code
def yJ9_max_7cf53 : MethodName := ⟨RJ9, "max", "(II)I"⟩
abbrev cJ9_min_7cf53 : ByteArray := prog_9_method_69_code
def yJ9_min_7cf53 : MethodName := ⟨RJ9, "min", "(II)I"⟩
def RJ10 : String := "java/lang/System"
def TJ10 : u_T := fun k => match k with
  | _ => ("", "", "", false)
def tyJ10 : Nat → FieldType := fun k => match k with
  | _ => .int
abbrev wsJ100 : List Cond := u_ws RJ10 TJ10 0
theorem nmJ10 : ∀ a, a < 0 → ∀ b, b < 0 → a ≠ b → (TJ10 a).2.1 ≠ (TJ10 b).2.1 := by decide +kernel
theorem tyJ10_ok : ∀ k, k < 0 → parseFieldDescriptor (TJ10 k).2.2.1 = some (tyJ10 k) := by decide +kernel
def RL : String := "CaptureSegmentsLaw"
abbrev cL_law : ByteArray := code
def yL_law : MethodName := ⟨RL, "law", "([I)Z"⟩
/-- the objects of CaptureSegments$History, kind 0: what each holds, by its address -/
abbrev vwCl : List vw_C := [(RX0, TX0, 3), (RX1, TX1, 15), (RX2, TX2, 9), (RX3, TX3, 2), (RX4, TX4, 2), (RX5, TX5, 4), (RX6, TX6, 13)]
end
section
/-! the words of the tables that a callee may be given: the good ones -/
def WL : List Cond := lw_tbl.filter goodWord
def isNest : Cond → Bool
  | .fieldLinkNest _ _ _ _ _ _ => true
  | .methodLinkNest _ _ _ _ => true
  | _ => false
def NL : List Cond := lw_tbl.filter isNest
theorem wl_mem {w : Cond} (i : Nat) (h : lw_tbl[i]? = some w) (g : goodWord w = true) : w ∈ WL := List.mem_filter.mpr ⟨List.mem_of_getElem? h, g⟩
theorem nl_mem {w : Cond} (i : Nat) (h : lw_tbl[i]? = some w) (g : isNest w = true) : w ∈ NL := List.mem_filter.mpr ⟨List.mem_of_getElem? h, g⟩
theorem wl_good : ∀ w ∈ WL, (w.onTables && w.keeps) = true ∨ ∃ ty, w = .arrayClass ty := fun w h => good_of_word (List.mem_filter.mp h).2
theorem gi_c {y : Cond} (hy : y ∈ WL) : GoodIn WL (y :: WL) := fun w h => by
  rcases List.mem_cons.mp h with rfl | h
  · exact ⟨hy, wl_good _ hy⟩
  · exact ⟨h, wl_good _ h⟩
theorem gi_c2 {y : Cond} {l : List Cond} (hy : y ∈ WL) (h : GoodIn WL l) : GoodIn WL (y :: l) := fun w h9 => by
  rcases List.mem_cons.mp h9 with rfl | h9
  · exact ⟨hy, wl_good _ hy⟩
  · exact h w h9
abbrev xLV (own : String) (idx : Nat) (C : String) (y : MethodName) (bytes : ByteArray) (maxL : Nat) (ret : Option FieldType) (n : Nat) : Prop := GoodIn WL (wsV own idx C y (Cond.code y bytes maxL ret :: WL)) ∧ (y.cls = C ∧ y.cls ≠ "java/lang/invoke/MethodHandle" ∧ y.cls ≠ "java/lang/invoke/VarHandle" ∧ (parseMethodDescriptor y.desc).map (fun d => d.parameters.length) = some n)
abbrev xLS (own : String) (idx : Nat) (y : MethodName) (bytes : ByteArray) (maxL : Nat) (ret : Option FieldType) (n : Nat) : Prop := GoodIn WL (va_wsS own idx y (Cond.code y bytes maxL ret :: WL)) ∧ (y.cls ≠ "java/lang/invoke/MethodHandle" ∧ y.cls ≠ "java/lang/invoke/VarHandle" ∧ (parseMethodDescriptor y.desc).map (fun d => d.parameters.length) = some n)
abbrev xLI (own : String) (idx : Nat) (y : MethodName) (bytes : ByteArray) (maxL : Nat) (n : Nat) : Prop := (Cond.code y bytes maxL none ∈ WL ∧ Cond.initialized y.cls ∈ WL ∧ Cond.methodLink own idx y ∈ WL ∧ Cond.instanceMethod y ∈ WL ∧ y.name = "<init>") ∧ (y.cls ≠ "java/lang/invoke/MethodHandle" ∧ y.cls ≠ "java/lang/invoke/VarHandle" ∧ (parseMethodDescriptor y.desc).map (fun d => d.parameters.length) = some n)
abbrev xLSN (own : String) (idx : Nat) (y : MethodName) (host : String) (bytes : ByteArray) (maxL : Nat) (ret : Option FieldType) (n : Nat) : Prop := (Cond.code y bytes maxL ret ∈ WL ∧ Cond.initialized y.cls ∈ WL ∧ Cond.methodLinkNest own idx y host ∈ NL ∧ Cond.static y ∈ WL) ∧ (y.cls ≠ "java/lang/invoke/MethodHandle" ∧ y.cls ≠ "java/lang/invoke/VarHandle" ∧ (parseMethodDescriptor y.desc).map (fun d => d.parameters.length) = some n)
abbrev xLIN (own : String) (idx : Nat) (y : MethodName) (host : String) (bytes : ByteArray) (maxL : Nat) (n : Nat) : Prop := (Cond.code y bytes maxL none ∈ WL ∧ Cond.initialized y.cls ∈ WL ∧ Cond.methodLinkNest own idx y host ∈ NL ∧ Cond.instanceMethod y ∈ WL ∧ y.name = "<init>") ∧ (y.cls ≠ "java/lang/invoke/MethodHandle" ∧ y.cls ≠ "java/lang/invoke/VarHandle" ∧ (parseMethodDescriptor y.desc).map (fun d => d.parameters.length) = some n)
theorem gi_V {own C : String} {idx : Nat} {y : MethodName} {bytes : ByteArray} {maxL : Nat} {ret : Option FieldType} (h1 : Cond.methodLink own idx y ∈ WL) (h2 : Cond.instanceMethod y ∈ WL) (h3 : Cond.selects C y y ∈ WL) (h4 : Cond.initialized C ∈ WL) (h5 : Cond.code y bytes maxL ret ∈ WL) : GoodIn WL (wsV own idx C y (Cond.code y bytes maxL ret :: WL)) := gi_c2 h1 (gi_c2 h2 (gi_c2 h3 (gi_c2 h4 (gi_c h5))))
theorem gi_S {own : String} {idx : Nat} {y : MethodName} {bytes : ByteArray} {maxL : Nat} {ret : Option FieldType} (h1 : Cond.methodLink own idx y ∈ WL) (h2 : Cond.static y ∈ WL) (h4 : Cond.initialized y.cls ∈ WL) (h5 : Cond.code y bytes maxL ret ∈ WL) : GoodIn WL (va_wsS own idx y (Cond.code y bytes maxL ret :: WL)) := gi_c2 h1 (gi_c2 h2 (gi_c2 h4 (gi_c h5)))
theorem ws_X1_fits : Cond.selects RX1 yX1_fits yX1_fits ∈ WL := wl_mem 0 (by decide +kernel) (by decide +kernel)
theorem ws_X1_takeSample : Cond.selects RX1 yX1_takeSample yX1_takeSample ∈ WL := wl_mem 1 (by decide +kernel) (by decide +kernel)
theorem ws_X1_detect : Cond.selects RX1 yX1_detect yX1_detect ∈ WL := wl_mem 2 (by decide +kernel) (by decide +kernel)
theorem ws_X1_detectorAfter : Cond.selects RX1 yX1_detectorAfter yX1_detectorAfter ∈ WL := wl_mem 3 (by decide +kernel) (by decide +kernel)
theorem ws_X1_beginSegment : Cond.selects RX1 yX1_beginSegment yX1_beginSegment ∈ WL := wl_mem 4 (by decide +kernel) (by decide +kernel)
theorem ws_X1_completeSegment : Cond.selects RX1 yX1_completeSegment yX1_completeSegment ∈ WL := wl_mem 5 (by decide +kernel) (by decide +kernel)
theorem ws_X2_readOrder : Cond.selects RX2 yX2_readOrder yX2_readOrder ∈ WL := wl_mem 6 (by decide +kernel) (by decide +kernel)
theorem ws_X2_code : Cond.selects RX2 yX2_code yX2_code ∈ WL := wl_mem 7 (by decide +kernel) (by decide +kernel)
theorem ws_X2_readKind : Cond.selects RX2 yX2_readKind yX2_readKind ∈ WL := wl_mem 8 (by decide +kernel) (by decide +kernel)
theorem ws_X2_addStep : Cond.selects RX2 yX2_addStep yX2_addStep ∈ WL := wl_mem 9 (by decide +kernel) (by decide +kernel)
theorem ws_X2_readLevel : Cond.selects RX2 yX2_readLevel yX2_readLevel ∈ WL := wl_mem 10 (by decide +kernel) (by decide +kernel)
theorem ws_X2_readValue : Cond.selects RX2 yX2_readValue yX2_readValue ∈ WL := wl_mem 11 (by decide +kernel) (by decide +kernel)
theorem ws_X2_readNumber : Cond.selects RX2 yX2_readNumber yX2_readNumber ∈ WL := wl_mem 12 (by decide +kernel) (by decide +kernel)
theorem ws_X2_readSample : Cond.selects RX2 yX2_readSample yX2_readSample ∈ WL := wl_mem 13 (by decide +kernel) (by decide +kernel)
theorem ws_X5_carryOutStep : Cond.selects RX5 yX5_carryOutStep yX5_carryOutStep ∈ WL := wl_mem 14 (by decide +kernel) (by decide +kernel)
theorem ws_X6_keep : Cond.selects RX6 yX6_keep yX6_keep ∈ WL := wl_mem 15 (by decide +kernel) (by decide +kernel)
theorem ws_X6_doSet : Cond.selects RX6 yX6_doSet yX6_doSet ∈ WL := wl_mem 16 (by decide +kernel) (by decide +kernel)
theorem ws_X6_dropsOldest : Cond.selects RX6 yX6_dropsOldest yX6_dropsOldest ∈ WL := wl_mem 17 (by decide +kernel) (by decide +kernel)
theorem ws_X6_takesOut : Cond.selects RX6 yX6_takesOut yX6_takesOut ∈ WL := wl_mem 18 (by decide +kernel) (by decide +kernel)
theorem ws_X6_changed : Cond.selects RX6 yX6_changed yX6_changed ∈ WL := wl_mem 19 (by decide +kernel) (by decide +kernel)
theorem ws_X6_doFeed : Cond.selects RX6 yX6_doFeed yX6_doFeed ∈ WL := wl_mem 20 (by decide +kernel) (by decide +kernel)
theorem ws_X6_comes : Cond.selects RX6 yX6_comes yX6_comes ∈ WL := wl_mem 21 (by decide +kernel) (by decide +kernel)
theorem ws_X6_isFiring : Cond.selects RX6 yX6_isFiring yX6_isFiring ∈ WL := wl_mem 22 (by decide +kernel) (by decide +kernel)
theorem ws_X6_isLongEnough : Cond.selects RX6 yX6_isLongEnough yX6_isLongEnough ∈ WL := wl_mem 23 (by decide +kernel) (by decide +kernel)
theorem ws_X6_hasRoom : Cond.selects RX6 yX6_hasRoom yX6_hasRoom ∈ WL := wl_mem 24 (by decide +kernel) (by decide +kernel)
theorem ws_X6_captures : Cond.selects RX6 yX6_captures yX6_captures ∈ WL := wl_mem 25 (by decide +kernel) (by decide +kernel)
theorem ws_X6_lacking : Cond.selects RX6 yX6_lacking yX6_lacking ∈ WL := wl_mem 26 (by decide +kernel) (by decide +kernel)
theorem ws_X6_completes : Cond.selects RX6 yX6_completes yX6_completes ∈ WL := wl_mem 27 (by decide +kernel) (by decide +kernel)
theorem ws_X6_doClear : Cond.selects RX6 yX6_doClear yX6_doClear ∈ WL := wl_mem 28 (by decide +kernel) (by decide +kernel)
theorem ws_X6_isSegment : Cond.selects RX6 yX6_isSegment yX6_isSegment ∈ WL := wl_mem 29 (by decide +kernel) (by decide +kernel)
theorem ws_X6_of : Cond.selects RX6 yX6_of yX6_of ∈ WL := wl_mem 30 (by decide +kernel) (by decide +kernel)
theorem ws_X6_least : Cond.selects RX6 yX6_least yX6_least ∈ WL := wl_mem 31 (by decide +kernel) (by decide +kernel)
theorem ws_X6_sampleAt : Cond.selects RX6 yX6_sampleAt yX6_sampleAt ∈ WL := wl_mem 32 (by decide +kernel) (by decide +kernel)
theorem ws_X6_numberOf : Cond.selects RX6 yX6_numberOf yX6_numberOf ∈ WL := wl_mem 33 (by decide +kernel) (by decide +kernel)
theorem ws_X6_greatest : Cond.selects RX6 yX6_greatest yX6_greatest ∈ WL := wl_mem 34 (by decide +kernel) (by decide +kernel)
theorem ws_X6_sumOf : Cond.selects RX6 yX6_sumOf yX6_sumOf ∈ WL := wl_mem 35 (by decide +kernel) (by decide +kernel)
theorem ws_X6_risesIn : Cond.selects RX6 yX6_risesIn yX6_risesIn ∈ WL := wl_mem 36 (by decide +kernel) (by decide +kernel)
theorem ws_X6_phase : Cond.selects RX6 yX6_phase yX6_phase ∈ WL := wl_mem 37 (by decide +kernel) (by decide +kernel)
theorem ws_X6_isLevel : Cond.selects RX6 yX6_isLevel yX6_isLevel ∈ WL := wl_mem 38 (by decide +kernel) (by decide +kernel)
theorem ws_X6_firings : Cond.selects RX6 yX6_firings yX6_firings ∈ WL := wl_mem 39 (by decide +kernel) (by decide +kernel)
theorem ws_X6_unlikeOf : Cond.selects RX6 yX6_unlikeOf yX6_unlikeOf ∈ WL := wl_mem 40 (by decide +kernel) (by decide +kernel)
theorem ws_X6_readsOrder : Cond.selects RX6 yX6_readsOrder yX6_readsOrder ∈ WL := wl_mem 41 (by decide +kernel) (by decide +kernel)
theorem ws_X6_takes : Cond.selects RX6 yX6_takes yX6_takes ∈ WL := wl_mem 42 (by decide +kernel) (by decide +kernel)
theorem ws_X6_isHere : Cond.selects RX6 yX6_isHere yX6_isHere ∈ WL := wl_mem 43 (by decide +kernel) (by decide +kernel)
theorem ws_X6_does : Cond.selects RX6 yX6_does yX6_does ∈ WL := wl_mem 44 (by decide +kernel) (by decide +kernel)
theorem ws_X6_readsValue : Cond.selects RX6 yX6_readsValue yX6_readsValue ∈ WL := wl_mem 45 (by decide +kernel) (by decide +kernel)
theorem ws_X6_readsNumber : Cond.selects RX6 yX6_readsNumber yX6_readsNumber ∈ WL := wl_mem 46 (by decide +kernel) (by decide +kernel)
theorem ws_X6_readsSamples : Cond.selects RX6 yX6_readsSamples yX6_readsSamples ∈ WL := wl_mem 47 (by decide +kernel) (by decide +kernel)
theorem wz_L : Cond.initialized RL ∈ WL := wl_mem 48 (by decide +kernel) (by decide +kernel)
theorem wz_X5 : Cond.initialized RX5 ∈ WL := wl_mem 49 (by decide +kernel) (by decide +kernel)
theorem wz_X1 : Cond.initialized RX1 ∈ WL := wl_mem 50 (by decide +kernel) (by decide +kernel)
theorem wz_X3 : Cond.initialized RX3 ∈ WL := wl_mem 51 (by decide +kernel) (by decide +kernel)
theorem wz_Math : Cond.initialized "java/lang/Math" ∈ WL := wl_mem 52 (by decide +kernel) (by decide +kernel)
theorem wz_System : Cond.initialized "java/lang/System" ∈ WL := wl_mem 53 (by decide +kernel) (by decide +kernel)
theorem wz_X0 : Cond.initialized RX0 ∈ WL := wl_mem 54 (by decide +kernel) (by decide +kernel)
theorem wz_X4 : Cond.initialized RX4 ∈ WL := wl_mem 55 (by decide +kernel) (by decide +kernel)
theorem wz_X2 : Cond.initialized RX2 ∈ WL := wl_mem 56 (by decide +kernel) (by decide +kernel)
theorem wz_X6 : Cond.initialized RX6 ∈ WL := wl_mem 57 (by decide +kernel) (by decide +kernel)
theorem wl_L_7 : Cond.classLink RL 7 RX5 ∈ WL := wl_mem 58 (by decide +kernel) (by decide +kernel)
theorem wo_X5 : Cond.instantiable RX5 4 ∈ WL := wl_mem 59 (by decide +kernel) (by decide +kernel)
theorem wm_L_9 : Cond.methodLink RL 9 yX5_init ∈ WL := wl_mem 60 (by decide +kernel) (by decide +kernel)
theorem wi_X5_init : Cond.instanceMethod yX5_init ∈ WL := wl_mem 61 (by decide +kernel) (by decide +kernel)
theorem wc_X5_init : Cond.code yX5_init cX5_init 1 none ∈ WL := wl_mem 62 (by decide +kernel) (by decide +kernel)
theorem wm_X5_1 : Cond.methodLink RX5 1 objectInit ∈ WL := wl_mem 63 (by decide +kernel) (by decide +kernel)
theorem wi_jobj : Cond.instanceMethod objectInit ∈ WL := wl_mem 64 (by decide +kernel) (by decide +kernel)
theorem wc_jobj : Cond.code objectInit ⟨#[0xb1]⟩ 1 none ∈ WL := wl_mem 65 (by decide +kernel) (by decide +kernel)
theorem wl_X5_7 : Cond.classLink RX5 7 RX1 ∈ WL := wl_mem 66 (by decide +kernel) (by decide +kernel)
theorem wo_X1 : Cond.instantiable RX1 15 ∈ WL := wl_mem 67 (by decide +kernel) (by decide +kernel)
theorem wm_X5_9 : Cond.methodLink RX5 9 yX1_init ∈ WL := wl_mem 68 (by decide +kernel) (by decide +kernel)
theorem wi_X1_init : Cond.instanceMethod yX1_init ∈ WL := wl_mem 69 (by decide +kernel) (by decide +kernel)
theorem wc_X1_init : Cond.code yX1_init cX1_init 1 none ∈ WL := wl_mem 70 (by decide +kernel) (by decide +kernel)
theorem wm_X1_3 : Cond.methodLink RX1 3 objectInit ∈ WL := wl_mem 71 (by decide +kernel) (by decide +kernel)
theorem wl_X1_18 : Cond.classLink RX1 18 RX3 ∈ WL := wl_mem 72 (by decide +kernel) (by decide +kernel)
theorem wo_X3 : Cond.instantiable RX3 2 ∈ WL := wl_mem 73 (by decide +kernel) (by decide +kernel)
theorem wn_X1_20 : Cond.methodLinkNest RX1 20 yX3_init RX5 ∈ NL := nl_mem 74 (by decide +kernel) (by decide +kernel)
theorem wi_X3_init : Cond.instanceMethod yX3_init ∈ WL := wl_mem 75 (by decide +kernel) (by decide +kernel)
theorem wc_X3_init : Cond.code yX3_init cX3_init 1 none ∈ WL := wl_mem 76 (by decide +kernel) (by decide +kernel)
theorem wm_X3_3 : Cond.methodLink RX3 3 objectInit ∈ WL := wl_mem 77 (by decide +kernel) (by decide +kernel)
theorem wf_X3_9 : Cond.fieldLink RX3 9 "CaptureSegments$Segments" "numbers" "[I" ∈ WL := wl_mem 78 (by decide +kernel) (by decide +kernel)
theorem wf_X3_15 : Cond.fieldLink RX3 15 "CaptureSegments$Segments" "size" "I" ∈ WL := wl_mem 79 (by decide +kernel) (by decide +kernel)
theorem wg_X5_72 : Cond.fieldLinkNest RX5 72 "CaptureSegments$Segments" "size" "I" RX5 ∈ NL := nl_mem 80 (by decide +kernel) (by decide +kernel)
theorem wg_X1_124 : Cond.fieldLinkNest RX1 124 "CaptureSegments$Segments" "size" "I" RX5 ∈ NL := nl_mem 81 (by decide +kernel) (by decide +kernel)
theorem wa_int : Cond.arrayClass .int ∈ WL := wl_mem 87 (by decide +kernel) (by decide +kernel)
theorem wg_X1_62 : Cond.fieldLinkNest RX1 62 "CaptureSegments" "FIRST_OF_SETTING" "[I" RX5 ∈ NL := nl_mem 88 (by decide +kernel) (by decide +kernel)
theorem wn_X1_65 : Cond.methodLinkNest RX1 65 yX5_copyRow RX5 ∈ NL := nl_mem 90 (by decide +kernel) (by decide +kernel)
theorem wt_X5_copyRow : Cond.static yX5_copyRow ∈ WL := wl_mem 91 (by decide +kernel) (by decide +kernel)
theorem wc_X5_copyRow : Cond.code yX5_copyRow cX5_copyRow 2 none ∈ WL := wl_mem 92 (by decide +kernel) (by decide +kernel)
theorem wm_X5_165 : Cond.methodLink RX5 165 Lib.Math.min.name ∈ WL := wl_mem 93 (by decide +kernel) (by decide +kernel)
theorem wt_jmin : Cond.static Lib.Math.min.name ∈ WL := wl_mem 94 (by decide +kernel) (by decide +kernel)
theorem wc_jmin : Cond.code Lib.Math.min.name Lib.Math.min.code 2 (some .int) ∈ WL := wl_mem 95 (by decide +kernel) (by decide +kernel)
theorem wm_X5_170 : Cond.methodLink RX5 170 arraycopyName ∈ WL := wl_mem 96 (by decide +kernel) (by decide +kernel)
theorem wt_jcopy : Cond.static arraycopyName ∈ WL := wl_mem 97 (by decide +kernel) (by decide +kernel)
theorem wv_jcopy : Cond.native arraycopyName ∈ WL := wl_mem 98 (by decide +kernel) (by decide +kernel)
theorem wf_X1_9 : Cond.fieldLink RX1 9 "CaptureSegments$Memory" "settings" "[I" ∈ WL := wl_mem 99 (by decide +kernel) (by decide +kernel)
theorem wf_X1_15 : Cond.fieldLink RX1 15 "CaptureSegments$Memory" "samples" "[I" ∈ WL := wl_mem 100 (by decide +kernel) (by decide +kernel)
theorem wf_X1_21 : Cond.fieldLink RX1 21 "CaptureSegments$Memory" "segments" "LCaptureSegments$Segments;" ∈ WL := wl_mem 101 (by decide +kernel) (by decide +kernel)
theorem wg_X5_58 : Cond.fieldLinkNest RX5 58 "CaptureSegments$Memory" "segments" "LCaptureSegments$Segments;" RX5 ∈ NL := nl_mem 102 (by decide +kernel) (by decide +kernel)
theorem wf_X1_25 : Cond.fieldLink RX1 25 "CaptureSegments$Memory" "samplesSoFar" "I" ∈ WL := wl_mem 103 (by decide +kernel) (by decide +kernel)
theorem wg_X5_98 : Cond.fieldLinkNest RX5 98 "CaptureSegments$Memory" "samplesSoFar" "I" RX5 ∈ NL := nl_mem 104 (by decide +kernel) (by decide +kernel)
theorem wf_X1_29 : Cond.fieldLink RX1 29 "CaptureSegments$Memory" "detector" "I" ∈ WL := wl_mem 105 (by decide +kernel) (by decide +kernel)
theorem wf_X1_32 : Cond.fieldLink RX1 32 "CaptureSegments$Memory" "firings" "I" ∈ WL := wl_mem 106 (by decide +kernel) (by decide +kernel)
theorem wf_X1_35 : Cond.fieldLink RX1 35 "CaptureSegments$Memory" "triggers" "I" ∈ WL := wl_mem 107 (by decide +kernel) (by decide +kernel)
theorem wf_X1_38 : Cond.fieldLink RX1 38 "CaptureSegments$Memory" "ignored" "I" ∈ WL := wl_mem 108 (by decide +kernel) (by decide +kernel)
theorem wf_X1_41 : Cond.fieldLink RX1 41 "CaptureSegments$Memory" "completed" "I" ∈ WL := wl_mem 109 (by decide +kernel) (by decide +kernel)
theorem wf_X1_44 : Cond.fieldLink RX1 44 "CaptureSegments$Memory" "since" "I" ∈ WL := wl_mem 110 (by decide +kernel) (by decide +kernel)
theorem wf_X1_47 : Cond.fieldLink RX1 47 "CaptureSegments$Memory" "capturedTrigger" "I" ∈ WL := wl_mem 111 (by decide +kernel) (by decide +kernel)
theorem wf_X1_50 : Cond.fieldLink RX1 50 "CaptureSegments$Memory" "capturedDepth" "I" ∈ WL := wl_mem 112 (by decide +kernel) (by decide +kernel)
theorem wf_X1_53 : Cond.fieldLink RX1 53 "CaptureSegments$Memory" "capturedPre" "I" ∈ WL := wl_mem 113 (by decide +kernel) (by decide +kernel)
theorem wf_X1_56 : Cond.fieldLink RX1 56 "CaptureSegments$Memory" "capturedKind" "I" ∈ WL := wl_mem 114 (by decide +kernel) (by decide +kernel)
theorem wf_X1_59 : Cond.fieldLink RX1 59 "CaptureSegments$Memory" "yetToGet" "I" ∈ WL := wl_mem 115 (by decide +kernel) (by decide +kernel)
theorem wl_X5_16 : Cond.classLink RX5 16 RX0 ∈ WL := wl_mem 147 (by decide +kernel) (by decide +kernel)
theorem wo_X0 : Cond.instantiable RX0 3 ∈ WL := wl_mem 148 (by decide +kernel) (by decide +kernel)
theorem wm_X5_18 : Cond.methodLink RX5 18 yX0_init ∈ WL := wl_mem 149 (by decide +kernel) (by decide +kernel)
theorem wi_X0_init : Cond.instanceMethod yX0_init ∈ WL := wl_mem 150 (by decide +kernel) (by decide +kernel)
theorem wc_X0_init : Cond.code yX0_init cX0_init 2 none ∈ WL := wl_mem 151 (by decide +kernel) (by decide +kernel)
theorem wm_X0_3 : Cond.methodLink RX0 3 objectInit ∈ WL := wl_mem 152 (by decide +kernel) (by decide +kernel)
theorem wl_X0_9 : Cond.classLink RX0 9 RX1 ∈ WL := wl_mem 153 (by decide +kernel) (by decide +kernel)
theorem wm_X0_24 : Cond.methodLink RX0 24 yX1_init ∈ WL := wl_mem 155 (by decide +kernel) (by decide +kernel)
theorem wf_X0_11 : Cond.fieldLink RX0 11 "CaptureSegments$History" "states" "[LCaptureSegments$Memory;" ∈ WL := wl_mem 156 (by decide +kernel) (by decide +kernel)
theorem wf_X0_17 : Cond.fieldLink RX0 17 "CaptureSegments$History" "next" "I" ∈ WL := wl_mem 157 (by decide +kernel) (by decide +kernel)
theorem wf_X0_21 : Cond.fieldLink RX0 21 "CaptureSegments$History" "size" "I" ∈ WL := wl_mem 158 (by decide +kernel) (by decide +kernel)
theorem wg_X5_101 : Cond.fieldLinkNest RX5 101 "CaptureSegments$History" "size" "I" RX5 ∈ NL := nl_mem 159 (by decide +kernel) (by decide +kernel)
theorem wl_X5_23 : Cond.classLink RX5 23 RX4 ∈ WL := wl_mem 167 (by decide +kernel) (by decide +kernel)
theorem wo_X4 : Cond.instantiable RX4 2 ∈ WL := wl_mem 168 (by decide +kernel) (by decide +kernel)
theorem wm_X5_25 : Cond.methodLink RX5 25 yX4_init ∈ WL := wl_mem 169 (by decide +kernel) (by decide +kernel)
theorem wi_X4_init : Cond.instanceMethod yX4_init ∈ WL := wl_mem 170 (by decide +kernel) (by decide +kernel)
theorem wc_X4_init : Cond.code yX4_init cX4_init 2 none ∈ WL := wl_mem 171 (by decide +kernel) (by decide +kernel)
theorem wm_X4_3 : Cond.methodLink RX4 3 objectInit ∈ WL := wl_mem 172 (by decide +kernel) (by decide +kernel)
theorem wl_X4_9 : Cond.classLink RX4 9 RX1 ∈ WL := wl_mem 173 (by decide +kernel) (by decide +kernel)
theorem wm_X4_21 : Cond.methodLink RX4 21 yX1_init ∈ WL := wl_mem 174 (by decide +kernel) (by decide +kernel)
theorem wf_X4_11 : Cond.fieldLink RX4 11 "CaptureSegments$Slots" "states" "[LCaptureSegments$Memory;" ∈ WL := wl_mem 175 (by decide +kernel) (by decide +kernel)
theorem wf_X4_17 : Cond.fieldLink RX4 17 "CaptureSegments$Slots" "saved" "[Z" ∈ WL := wl_mem 176 (by decide +kernel) (by decide +kernel)
theorem wa_boolean : Cond.arrayClass .boolean ∈ WL := wl_mem 182 (by decide +kernel) (by decide +kernel)
theorem wl_X5_30 : Cond.classLink RX5 30 RX2 ∈ WL := wl_mem 183 (by decide +kernel) (by decide +kernel)
theorem wo_X2 : Cond.instantiable RX2 9 ∈ WL := wl_mem 184 (by decide +kernel) (by decide +kernel)
theorem wn_X5_32 : Cond.methodLinkNest RX5 32 yX2_init RX5 ∈ NL := nl_mem 185 (by decide +kernel) (by decide +kernel)
theorem wi_X2_init : Cond.instanceMethod yX2_init ∈ WL := wl_mem 186 (by decide +kernel) (by decide +kernel)
theorem wc_X2_init : Cond.code yX2_init cX2_init 1 none ∈ WL := wl_mem 187 (by decide +kernel) (by decide +kernel)
theorem wm_X2_3 : Cond.methodLink RX2 3 objectInit ∈ WL := wl_mem 188 (by decide +kernel) (by decide +kernel)
theorem wf_X2_9 : Cond.fieldLink RX2 9 "CaptureSegments$Pad" "codes" "[I" ∈ WL := wl_mem 189 (by decide +kernel) (by decide +kernel)
theorem wf_X2_15 : Cond.fieldLink RX2 15 "CaptureSegments$Pad" "length" "I" ∈ WL := wl_mem 190 (by decide +kernel) (by decide +kernel)
theorem wg_X5_102 : Cond.fieldLinkNest RX5 102 "CaptureSegments$Pad" "length" "I" RX5 ∈ NL := nl_mem 191 (by decide +kernel) (by decide +kernel)
theorem wf_X2_19 : Cond.fieldLink RX2 19 "CaptureSegments$Pad" "actions" "[I" ∈ WL := wl_mem 192 (by decide +kernel) (by decide +kernel)
theorem wg_X5_147 : Cond.fieldLinkNest RX5 147 "CaptureSegments$Pad" "actions" "[I" RX5 ∈ NL := nl_mem 193 (by decide +kernel) (by decide +kernel)
theorem wf_X2_22 : Cond.fieldLink RX2 22 "CaptureSegments$Pad" "values" "[I" ∈ WL := wl_mem 194 (by decide +kernel) (by decide +kernel)
theorem wg_X5_139 : Cond.fieldLinkNest RX5 139 "CaptureSegments$Pad" "values" "[I" RX5 ∈ NL := nl_mem 195 (by decide +kernel) (by decide +kernel)
theorem wf_X2_25 : Cond.fieldLink RX2 25 "CaptureSegments$Pad" "times" "[I" ∈ WL := wl_mem 196 (by decide +kernel) (by decide +kernel)
theorem wg_X5_150 : Cond.fieldLinkNest RX5 150 "CaptureSegments$Pad" "times" "[I" RX5 ∈ NL := nl_mem 197 (by decide +kernel) (by decide +kernel)
theorem wf_X2_28 : Cond.fieldLink RX2 28 "CaptureSegments$Pad" "ends" "[I" ∈ WL := wl_mem 198 (by decide +kernel) (by decide +kernel)
theorem wf_X2_31 : Cond.fieldLink RX2 31 "CaptureSegments$Pad" "steps" "I" ∈ WL := wl_mem 199 (by decide +kernel) (by decide +kernel)
theorem wg_X5_130 : Cond.fieldLinkNest RX5 130 "CaptureSegments$Pad" "steps" "I" RX5 ∈ NL := nl_mem 200 (by decide +kernel) (by decide +kernel)
theorem wf_X2_34 : Cond.fieldLink RX2 34 "CaptureSegments$Pad" "place" "I" ∈ WL := wl_mem 201 (by decide +kernel) (by decide +kernel)
theorem wf_X2_37 : Cond.fieldLink RX2 37 "CaptureSegments$Pad" "number" "I" ∈ WL := wl_mem 202 (by decide +kernel) (by decide +kernel)
theorem wf_X5_10 : Cond.fieldLink RX5 10 "CaptureSegments" "memory" "LCaptureSegments$Memory;" ∈ WL := wl_mem 222 (by decide +kernel) (by decide +kernel)
theorem wf_X5_19 : Cond.fieldLink RX5 19 "CaptureSegments" "history" "LCaptureSegments$History;" ∈ WL := wl_mem 223 (by decide +kernel) (by decide +kernel)
theorem wf_X5_26 : Cond.fieldLink RX5 26 "CaptureSegments" "slots" "LCaptureSegments$Slots;" ∈ WL := wl_mem 224 (by decide +kernel) (by decide +kernel)
theorem wf_X5_33 : Cond.fieldLink RX5 33 "CaptureSegments" "pad" "LCaptureSegments$Pad;" ∈ WL := wl_mem 225 (by decide +kernel) (by decide +kernel)
theorem wm_L_13 : Cond.methodLink RL 13 yX5_set ∈ WL := wl_mem 235 (by decide +kernel) (by decide +kernel)
theorem wi_X5_set : Cond.instanceMethod yX5_set ∈ WL := wl_mem 236 (by decide +kernel) (by decide +kernel)
theorem ws_X5_set : Cond.selects RX5 yX5_set yX5_set ∈ WL := wl_mem 237 (by decide +kernel) (by decide +kernel)
theorem wc_X5_set : Cond.code yX5_set cX5_set 4 (some .int) ∈ WL := wl_mem 238 (by decide +kernel) (by decide +kernel)
theorem wm_X5_37 : Cond.methodLink RX5 37 yX1_errorOfSetting ∈ WL := wl_mem 239 (by decide +kernel) (by decide +kernel)
theorem wi_X1_errorOfSetting : Cond.instanceMethod yX1_errorOfSetting ∈ WL := wl_mem 240 (by decide +kernel) (by decide +kernel)
theorem ws_X1_errorOfSetting : Cond.selects RX1 yX1_errorOfSetting yX1_errorOfSetting ∈ WL := wl_mem 241 (by decide +kernel) (by decide +kernel)
theorem wc_X1_errorOfSetting : Cond.code yX1_errorOfSetting cX1_errorOfSetting 3 (some .int) ∈ WL := wl_mem 242 (by decide +kernel) (by decide +kernel)
theorem wg_X1_73 : Cond.fieldLinkNest RX1 73 "CaptureSegments" "LEAST_OF_SETTING" "[I" RX5 ∈ NL := nl_mem 243 (by decide +kernel) (by decide +kernel)
theorem wn_X1_76 : Cond.methodLinkNest RX1 76 yX5_at RX5 ∈ NL := nl_mem 245 (by decide +kernel) (by decide +kernel)
theorem wt_X5_at : Cond.static yX5_at ∈ WL := wl_mem 246 (by decide +kernel) (by decide +kernel)
theorem wc_X5_at : Cond.code yX5_at cX5_at 2 (some .int) ∈ WL := wl_mem 247 (by decide +kernel) (by decide +kernel)
theorem wg_X1_80 : Cond.fieldLinkNest RX1 80 "CaptureSegments" "GREATEST_OF_SETTING" "[I" RX5 ∈ NL := nl_mem 248 (by decide +kernel) (by decide +kernel)
theorem wm_X1_83 : Cond.methodLink RX1 83 yX1_fits ∈ WL := wl_mem 250 (by decide +kernel) (by decide +kernel)
theorem wi_X1_fits : Cond.instanceMethod yX1_fits ∈ WL := wl_mem 252 (by decide +kernel) (by decide +kernel)
theorem wc_X1_fits : Cond.code yX1_fits cX1_fits 3 (some .boolean) ∈ WL := wl_mem 253 (by decide +kernel) (by decide +kernel)
theorem wm_X1_87 : Cond.methodLink RX1 87 yX1_settingOf ∈ WL := wl_mem 254 (by decide +kernel) (by decide +kernel)
theorem wi_X1_settingOf : Cond.instanceMethod yX1_settingOf ∈ WL := wl_mem 255 (by decide +kernel) (by decide +kernel)
theorem ws_X1_settingOf : Cond.selects RX1 yX1_settingOf yX1_settingOf ∈ WL := wl_mem 256 (by decide +kernel) (by decide +kernel)
theorem wc_X1_settingOf : Cond.code yX1_settingOf cX1_settingOf 2 (some .int) ∈ WL := wl_mem 257 (by decide +kernel) (by decide +kernel)
theorem wm_X5_41 : Cond.methodLink RX5 41 yX0_record ∈ WL := wl_mem 258 (by decide +kernel) (by decide +kernel)
theorem wi_X0_record : Cond.instanceMethod yX0_record ∈ WL := wl_mem 259 (by decide +kernel) (by decide +kernel)
theorem ws_X0_record : Cond.selects RX0 yX0_record yX0_record ∈ WL := wl_mem 260 (by decide +kernel) (by decide +kernel)
theorem wc_X0_record : Cond.code yX0_record cX0_record 3 none ∈ WL := wl_mem 261 (by decide +kernel) (by decide +kernel)
theorem wn_X0_25 : Cond.methodLinkNest RX0 25 yX5_memoryAt RX5 ∈ NL := nl_mem 262 (by decide +kernel) (by decide +kernel)
theorem wt_X5_memoryAt : Cond.static yX5_memoryAt ∈ WL := wl_mem 263 (by decide +kernel) (by decide +kernel)
theorem wc_X5_memoryAt : Cond.code yX5_memoryAt cX5_memoryAt 2 (some (.object "CaptureSegments$Memory")) ∈ WL := wl_mem 264 (by decide +kernel) (by decide +kernel)
theorem wm_X0_29 : Cond.methodLink RX0 29 yX1_takeOver ∈ WL := wl_mem 265 (by decide +kernel) (by decide +kernel)
theorem wi_X1_takeOver : Cond.instanceMethod yX1_takeOver ∈ WL := wl_mem 266 (by decide +kernel) (by decide +kernel)
theorem ws_X1_takeOver : Cond.selects RX1 yX1_takeOver yX1_takeOver ∈ WL := wl_mem 267 (by decide +kernel) (by decide +kernel)
theorem wc_X1_takeOver : Cond.code yX1_takeOver cX1_takeOver 2 none ∈ WL := wl_mem 268 (by decide +kernel) (by decide +kernel)
theorem wm_X1_69 : Cond.methodLink RX1 69 yX3_takeOver ∈ WL := wl_mem 269 (by decide +kernel) (by decide +kernel)
theorem wi_X3_takeOver : Cond.instanceMethod yX3_takeOver ∈ WL := wl_mem 270 (by decide +kernel) (by decide +kernel)
theorem ws_X3_takeOver : Cond.selects RX3 yX3_takeOver yX3_takeOver ∈ WL := wl_mem 271 (by decide +kernel) (by decide +kernel)
theorem wc_X3_takeOver : Cond.code yX3_takeOver cX3_takeOver 2 none ∈ WL := wl_mem 272 (by decide +kernel) (by decide +kernel)
theorem wn_X3_39 : Cond.methodLinkNest RX3 39 yX5_copyRow RX5 ∈ NL := nl_mem 273 (by decide +kernel) (by decide +kernel)
theorem wm_X0_33 : Cond.methodLink RX0 33 Lib.Math.min.name ∈ WL := wl_mem 274 (by decide +kernel) (by decide +kernel)
theorem wm_X5_45 : Cond.methodLink RX5 45 yX1_changeSetting ∈ WL := wl_mem 275 (by decide +kernel) (by decide +kernel)
theorem wi_X1_changeSetting : Cond.instanceMethod yX1_changeSetting ∈ WL := wl_mem 276 (by decide +kernel) (by decide +kernel)
theorem ws_X1_changeSetting : Cond.selects RX1 yX1_changeSetting yX1_changeSetting ∈ WL := wl_mem 277 (by decide +kernel) (by decide +kernel)
theorem wc_X1_changeSetting : Cond.code yX1_changeSetting cX1_changeSetting 4 (some .int) ∈ WL := wl_mem 278 (by decide +kernel) (by decide +kernel)
theorem wn_X1_91 : Cond.methodLinkNest RX1 91 yX5_writeAt RX5 ∈ NL := nl_mem 279 (by decide +kernel) (by decide +kernel)
theorem wt_X5_writeAt : Cond.static yX5_writeAt ∈ WL := wl_mem 280 (by decide +kernel) (by decide +kernel)
theorem wc_X5_writeAt : Cond.code yX5_writeAt cX5_writeAt 3 none ∈ WL := wl_mem 281 (by decide +kernel) (by decide +kernel)
theorem wm_X1_95 : Cond.methodLink RX1 95 yX3_keepLatest ∈ WL := wl_mem 282 (by decide +kernel) (by decide +kernel)
theorem wi_X3_keepLatest : Cond.instanceMethod yX3_keepLatest ∈ WL := wl_mem 283 (by decide +kernel) (by decide +kernel)
theorem ws_X3_keepLatest : Cond.selects RX3 yX3_keepLatest yX3_keepLatest ∈ WL := wl_mem 284 (by decide +kernel) (by decide +kernel)
theorem wc_X3_keepLatest : Cond.code yX3_keepLatest cX3_keepLatest 3 none ∈ WL := wl_mem 285 (by decide +kernel) (by decide +kernel)
theorem wm_X3_35 : Cond.methodLink RX3 35 yX3_removeAt ∈ WL := wl_mem 286 (by decide +kernel) (by decide +kernel)
theorem wi_X3_removeAt : Cond.instanceMethod yX3_removeAt ∈ WL := wl_mem 287 (by decide +kernel) (by decide +kernel)
theorem ws_X3_removeAt : Cond.selects RX3 yX3_removeAt yX3_removeAt ∈ WL := wl_mem 288 (by decide +kernel) (by decide +kernel)
theorem wc_X3_removeAt : Cond.code yX3_removeAt cX3_removeAt 3 none ∈ WL := wl_mem 289 (by decide +kernel) (by decide +kernel)
theorem wm_X3_31 : Cond.methodLink RX3 31 yX3_has ∈ WL := wl_mem 290 (by decide +kernel) (by decide +kernel)
theorem wi_X3_has : Cond.instanceMethod yX3_has ∈ WL := wl_mem 291 (by decide +kernel) (by decide +kernel)
theorem ws_X3_has : Cond.selects RX3 yX3_has yX3_has ∈ WL := wl_mem 292 (by decide +kernel) (by decide +kernel)
theorem wc_X3_has : Cond.code yX3_has cX3_has 2 (some .boolean) ∈ WL := wl_mem 293 (by decide +kernel) (by decide +kernel)
theorem wn_X3_19 : Cond.methodLinkNest RX3 19 yX5_at RX5 ∈ NL := nl_mem 294 (by decide +kernel) (by decide +kernel)
theorem wn_X3_27 : Cond.methodLinkNest RX3 27 yX5_writeAt RX5 ∈ NL := nl_mem 295 (by decide +kernel) (by decide +kernel)
theorem wm_L_18 : Cond.methodLink RL 18 yX5_feed ∈ WL := wl_mem 296 (by decide +kernel) (by decide +kernel)
theorem wi_X5_feed : Cond.instanceMethod yX5_feed ∈ WL := wl_mem 297 (by decide +kernel) (by decide +kernel)
theorem ws_X5_feed : Cond.selects RX5 yX5_feed yX5_feed ∈ WL := wl_mem 298 (by decide +kernel) (by decide +kernel)
theorem wc_X5_feed : Cond.code yX5_feed cX5_feed 4 (some .int) ∈ WL := wl_mem 299 (by decide +kernel) (by decide +kernel)
theorem wm_X5_48 : Cond.methodLink RX5 48 yX1_errorOfSamples ∈ WL := wl_mem 300 (by decide +kernel) (by decide +kernel)
theorem wi_X1_errorOfSamples : Cond.instanceMethod yX1_errorOfSamples ∈ WL := wl_mem 301 (by decide +kernel) (by decide +kernel)
theorem ws_X1_errorOfSamples : Cond.selects RX1 yX1_errorOfSamples yX1_errorOfSamples ∈ WL := wl_mem 302 (by decide +kernel) (by decide +kernel)
theorem wc_X1_errorOfSamples : Cond.code yX1_errorOfSamples cX1_errorOfSamples 3 (some .int) ∈ WL := wl_mem 303 (by decide +kernel) (by decide +kernel)
theorem wm_X5_51 : Cond.methodLink RX5 51 yX1_takeSamples ∈ WL := wl_mem 304 (by decide +kernel) (by decide +kernel)
theorem wi_X1_takeSamples : Cond.instanceMethod yX1_takeSamples ∈ WL := wl_mem 305 (by decide +kernel) (by decide +kernel)
theorem ws_X1_takeSamples : Cond.selects RX1 yX1_takeSamples yX1_takeSamples ∈ WL := wl_mem 306 (by decide +kernel) (by decide +kernel)
theorem wc_X1_takeSamples : Cond.code yX1_takeSamples cX1_takeSamples 5 (some .int) ∈ WL := wl_mem 307 (by decide +kernel) (by decide +kernel)
theorem wm_X1_99 : Cond.methodLink RX1 99 yX1_takeSample ∈ WL := wl_mem 308 (by decide +kernel) (by decide +kernel)
theorem wi_X1_takeSample : Cond.instanceMethod yX1_takeSample ∈ WL := wl_mem 310 (by decide +kernel) (by decide +kernel)
theorem wc_X1_takeSample : Cond.code yX1_takeSample cX1_takeSample 5 (some .boolean) ∈ WL := wl_mem 311 (by decide +kernel) (by decide +kernel)
theorem wm_X1_106 : Cond.methodLink RX1 106 yX1_detect ∈ WL := wl_mem 312 (by decide +kernel) (by decide +kernel)
theorem wi_X1_detect : Cond.instanceMethod yX1_detect ∈ WL := wl_mem 314 (by decide +kernel) (by decide +kernel)
theorem wc_X1_detect : Cond.code yX1_detect cX1_detect 4 (some .boolean) ∈ WL := wl_mem 315 (by decide +kernel) (by decide +kernel)
theorem wm_X1_116 : Cond.methodLink RX1 116 yX1_detectorAfter ∈ WL := wl_mem 316 (by decide +kernel) (by decide +kernel)
theorem wi_X1_detectorAfter : Cond.instanceMethod yX1_detectorAfter ∈ WL := wl_mem 318 (by decide +kernel) (by decide +kernel)
theorem wc_X1_detectorAfter : Cond.code yX1_detectorAfter cX1_detectorAfter 4 (some .int) ∈ WL := wl_mem 319 (by decide +kernel) (by decide +kernel)
theorem wm_X1_109 : Cond.methodLink RX1 109 yX1_phase ∈ WL := wl_mem 320 (by decide +kernel) (by decide +kernel)
theorem wi_X1_phase : Cond.instanceMethod yX1_phase ∈ WL := wl_mem 321 (by decide +kernel) (by decide +kernel)
theorem ws_X1_phase : Cond.selects RX1 yX1_phase yX1_phase ∈ WL := wl_mem 322 (by decide +kernel) (by decide +kernel)
theorem wc_X1_phase : Cond.code yX1_phase cX1_phase 1 (some .int) ∈ WL := wl_mem 323 (by decide +kernel) (by decide +kernel)
theorem wm_X1_113 : Cond.methodLink RX1 113 yX1_beginSegment ∈ WL := wl_mem 324 (by decide +kernel) (by decide +kernel)
theorem wi_X1_beginSegment : Cond.instanceMethod yX1_beginSegment ∈ WL := wl_mem 326 (by decide +kernel) (by decide +kernel)
theorem wc_X1_beginSegment : Cond.code yX1_beginSegment cX1_beginSegment 1 none ∈ WL := wl_mem 327 (by decide +kernel) (by decide +kernel)
theorem wm_X1_103 : Cond.methodLink RX1 103 yX1_completeSegment ∈ WL := wl_mem 328 (by decide +kernel) (by decide +kernel)
theorem wi_X1_completeSegment : Cond.instanceMethod yX1_completeSegment ∈ WL := wl_mem 330 (by decide +kernel) (by decide +kernel)
theorem wc_X1_completeSegment : Cond.code yX1_completeSegment cX1_completeSegment 1 none ∈ WL := wl_mem 331 (by decide +kernel) (by decide +kernel)
theorem wm_X1_120 : Cond.methodLink RX1 120 yX3_append ∈ WL := wl_mem 332 (by decide +kernel) (by decide +kernel)
theorem wi_X3_append : Cond.instanceMethod yX3_append ∈ WL := wl_mem 333 (by decide +kernel) (by decide +kernel)
theorem ws_X3_append : Cond.selects RX3 yX3_append yX3_append ∈ WL := wl_mem 334 (by decide +kernel) (by decide +kernel)
theorem wc_X3_append : Cond.code yX3_append cX3_append 6 none ∈ WL := wl_mem 335 (by decide +kernel) (by decide +kernel)
theorem wm_L_22 : Cond.methodLink RL 22 yX5_clear ∈ WL := wl_mem 336 (by decide +kernel) (by decide +kernel)
theorem wi_X5_clear : Cond.instanceMethod yX5_clear ∈ WL := wl_mem 337 (by decide +kernel) (by decide +kernel)
theorem ws_X5_clear : Cond.selects RX5 yX5_clear yX5_clear ∈ WL := wl_mem 338 (by decide +kernel) (by decide +kernel)
theorem wc_X5_clear : Cond.code yX5_clear cX5_clear 1 (some .int) ∈ WL := wl_mem 339 (by decide +kernel) (by decide +kernel)
theorem wm_X5_54 : Cond.methodLink RX5 54 yX1_forget ∈ WL := wl_mem 340 (by decide +kernel) (by decide +kernel)
theorem wi_X1_forget : Cond.instanceMethod yX1_forget ∈ WL := wl_mem 341 (by decide +kernel) (by decide +kernel)
theorem ws_X1_forget : Cond.selects RX1 yX1_forget yX1_forget ∈ WL := wl_mem 342 (by decide +kernel) (by decide +kernel)
theorem wc_X1_forget : Cond.code yX1_forget cX1_forget 2 (some .int) ∈ WL := wl_mem 343 (by decide +kernel) (by decide +kernel)
theorem wm_L_27 : Cond.methodLink RL 27 yX5_drop ∈ WL := wl_mem 344 (by decide +kernel) (by decide +kernel)
theorem wi_X5_drop : Cond.instanceMethod yX5_drop ∈ WL := wl_mem 345 (by decide +kernel) (by decide +kernel)
theorem ws_X5_drop : Cond.selects RX5 yX5_drop yX5_drop ∈ WL := wl_mem 346 (by decide +kernel) (by decide +kernel)
theorem wc_X5_drop : Cond.code yX5_drop cX5_drop 2 (some .int) ∈ WL := wl_mem 347 (by decide +kernel) (by decide +kernel)
theorem wm_X5_62 : Cond.methodLink RX5 62 yX3_has ∈ WL := wl_mem 348 (by decide +kernel) (by decide +kernel)
theorem wm_X5_68 : Cond.methodLink RX5 68 yX3_removeAt ∈ WL := wl_mem 349 (by decide +kernel) (by decide +kernel)
theorem wm_L_32 : Cond.methodLink RL 32 yX5_segment ∈ WL := wl_mem 350 (by decide +kernel) (by decide +kernel)
theorem wi_X5_segment : Cond.instanceMethod yX5_segment ∈ WL := wl_mem 351 (by decide +kernel) (by decide +kernel)
theorem ws_X5_segment : Cond.selects RX5 yX5_segment yX5_segment ∈ WL := wl_mem 352 (by decide +kernel) (by decide +kernel)
theorem wc_X5_segment : Cond.code yX5_segment cX5_segment 3 (some .int) ∈ WL := wl_mem 353 (by decide +kernel) (by decide +kernel)
theorem wm_X5_76 : Cond.methodLink RX5 76 yX3_numberOf ∈ WL := wl_mem 354 (by decide +kernel) (by decide +kernel)
theorem wi_X3_numberOf : Cond.instanceMethod yX3_numberOf ∈ WL := wl_mem 355 (by decide +kernel) (by decide +kernel)
theorem ws_X3_numberOf : Cond.selects RX3 yX3_numberOf yX3_numberOf ∈ WL := wl_mem 356 (by decide +kernel) (by decide +kernel)
theorem wc_X3_numberOf : Cond.code yX3_numberOf cX3_numberOf 3 (some .int) ∈ WL := wl_mem 357 (by decide +kernel) (by decide +kernel)
theorem wm_X5_79 : Cond.methodLink RX5 79 yX1_leastOf ∈ WL := wl_mem 358 (by decide +kernel) (by decide +kernel)
theorem wi_X1_leastOf : Cond.instanceMethod yX1_leastOf ∈ WL := wl_mem 359 (by decide +kernel) (by decide +kernel)
theorem ws_X1_leastOf : Cond.selects RX1 yX1_leastOf yX1_leastOf ∈ WL := wl_mem 360 (by decide +kernel) (by decide +kernel)
theorem wc_X1_leastOf : Cond.code yX1_leastOf cX1_leastOf 6 (some .int) ∈ WL := wl_mem 361 (by decide +kernel) (by decide +kernel)
theorem wm_X1_127 : Cond.methodLink RX1 127 yX3_firstOf ∈ WL := wl_mem 362 (by decide +kernel) (by decide +kernel)
theorem wi_X3_firstOf : Cond.instanceMethod yX3_firstOf ∈ WL := wl_mem 363 (by decide +kernel) (by decide +kernel)
theorem ws_X3_firstOf : Cond.selects RX3 yX3_firstOf yX3_firstOf ∈ WL := wl_mem 364 (by decide +kernel) (by decide +kernel)
theorem wc_X3_firstOf : Cond.code yX3_firstOf cX3_firstOf 2 (some .int) ∈ WL := wl_mem 365 (by decide +kernel) (by decide +kernel)
theorem wm_X3_23 : Cond.methodLink RX3 23 yX3_numberOf ∈ WL := wl_mem 366 (by decide +kernel) (by decide +kernel)
theorem wm_X1_130 : Cond.methodLink RX1 130 yX3_numberOf ∈ WL := wl_mem 367 (by decide +kernel) (by decide +kernel)
theorem wm_X1_134 : Cond.methodLink RX1 134 yX1_sampleAt ∈ WL := wl_mem 368 (by decide +kernel) (by decide +kernel)
theorem wi_X1_sampleAt : Cond.instanceMethod yX1_sampleAt ∈ WL := wl_mem 369 (by decide +kernel) (by decide +kernel)
theorem ws_X1_sampleAt : Cond.selects RX1 yX1_sampleAt yX1_sampleAt ∈ WL := wl_mem 370 (by decide +kernel) (by decide +kernel)
theorem wc_X1_sampleAt : Cond.code yX1_sampleAt cX1_sampleAt 2 (some .int) ∈ WL := wl_mem 371 (by decide +kernel) (by decide +kernel)
theorem wm_X1_137 : Cond.methodLink RX1 137 Lib.Math.min.name ∈ WL := wl_mem 372 (by decide +kernel) (by decide +kernel)
theorem wm_X5_83 : Cond.methodLink RX5 83 yX1_greatestOf ∈ WL := wl_mem 373 (by decide +kernel) (by decide +kernel)
theorem wi_X1_greatestOf : Cond.instanceMethod yX1_greatestOf ∈ WL := wl_mem 374 (by decide +kernel) (by decide +kernel)
theorem ws_X1_greatestOf : Cond.selects RX1 yX1_greatestOf yX1_greatestOf ∈ WL := wl_mem 375 (by decide +kernel) (by decide +kernel)
theorem wc_X1_greatestOf : Cond.code yX1_greatestOf cX1_greatestOf 6 (some .int) ∈ WL := wl_mem 376 (by decide +kernel) (by decide +kernel)
theorem wm_X1_142 : Cond.methodLink RX1 142 Lib.Math.max.name ∈ WL := wl_mem 377 (by decide +kernel) (by decide +kernel)
theorem wt_jmax : Cond.static Lib.Math.max.name ∈ WL := wl_mem 378 (by decide +kernel) (by decide +kernel)
theorem wc_jmax : Cond.code Lib.Math.max.name Lib.Math.max.code 2 (some .int) ∈ WL := wl_mem 379 (by decide +kernel) (by decide +kernel)
theorem wm_X5_86 : Cond.methodLink RX5 86 yX1_sumOf ∈ WL := wl_mem 380 (by decide +kernel) (by decide +kernel)
theorem wi_X1_sumOf : Cond.instanceMethod yX1_sumOf ∈ WL := wl_mem 381 (by decide +kernel) (by decide +kernel)
theorem ws_X1_sumOf : Cond.selects RX1 yX1_sumOf yX1_sumOf ∈ WL := wl_mem 382 (by decide +kernel) (by decide +kernel)
theorem wc_X1_sumOf : Cond.code yX1_sumOf cX1_sumOf 6 (some .int) ∈ WL := wl_mem 383 (by decide +kernel) (by decide +kernel)
theorem wm_X5_89 : Cond.methodLink RX5 89 yX1_upsOf ∈ WL := wl_mem 384 (by decide +kernel) (by decide +kernel)
theorem wi_X1_upsOf : Cond.instanceMethod yX1_upsOf ∈ WL := wl_mem 385 (by decide +kernel) (by decide +kernel)
theorem ws_X1_upsOf : Cond.selects RX1 yX1_upsOf yX1_upsOf ∈ WL := wl_mem 386 (by decide +kernel) (by decide +kernel)
theorem wc_X1_upsOf : Cond.code yX1_upsOf cX1_upsOf 6 (some .int) ∈ WL := wl_mem 387 (by decide +kernel) (by decide +kernel)
theorem wm_L_36 : Cond.methodLink RL 36 yX5_sampleOf ∈ WL := wl_mem 388 (by decide +kernel) (by decide +kernel)
theorem wi_X5_sampleOf : Cond.instanceMethod yX5_sampleOf ∈ WL := wl_mem 389 (by decide +kernel) (by decide +kernel)
theorem ws_X5_sampleOf : Cond.selects RX5 yX5_sampleOf yX5_sampleOf ∈ WL := wl_mem 390 (by decide +kernel) (by decide +kernel)
theorem wc_X5_sampleOf : Cond.code yX5_sampleOf cX5_sampleOf 3 (some .int) ∈ WL := wl_mem 391 (by decide +kernel) (by decide +kernel)
theorem wm_X5_92 : Cond.methodLink RX5 92 yX3_firstOf ∈ WL := wl_mem 392 (by decide +kernel) (by decide +kernel)
theorem wm_X5_95 : Cond.methodLink RX5 95 yX1_sampleAt ∈ WL := wl_mem 393 (by decide +kernel) (by decide +kernel)
theorem wm_L_40 : Cond.methodLink RL 40 yX5_sample ∈ WL := wl_mem 394 (by decide +kernel) (by decide +kernel)
theorem wi_X5_sample : Cond.instanceMethod yX5_sample ∈ WL := wl_mem 395 (by decide +kernel) (by decide +kernel)
theorem ws_X5_sample : Cond.selects RX5 yX5_sample yX5_sample ∈ WL := wl_mem 396 (by decide +kernel) (by decide +kernel)
theorem wc_X5_sample : Cond.code yX5_sample cX5_sample 2 (some .int) ∈ WL := wl_mem 397 (by decide +kernel) (by decide +kernel)
theorem wm_L_44 : Cond.methodLink RL 44 yX5_count ∈ WL := wl_mem 398 (by decide +kernel) (by decide +kernel)
theorem wi_X5_count : Cond.instanceMethod yX5_count ∈ WL := wl_mem 399 (by decide +kernel) (by decide +kernel)
theorem ws_X5_count : Cond.selects RX5 yX5_count yX5_count ∈ WL := wl_mem 400 (by decide +kernel) (by decide +kernel)
theorem wc_X5_count : Cond.code yX5_count cX5_count 2 (some .int) ∈ WL := wl_mem 401 (by decide +kernel) (by decide +kernel)
theorem wm_X5_105 : Cond.methodLink RX5 105 yX1_settingOf ∈ WL := wl_mem 402 (by decide +kernel) (by decide +kernel)
theorem wm_X5_108 : Cond.methodLink RX5 108 yX1_numberOf ∈ WL := wl_mem 403 (by decide +kernel) (by decide +kernel)
theorem wi_X1_numberOf : Cond.instanceMethod yX1_numberOf ∈ WL := wl_mem 404 (by decide +kernel) (by decide +kernel)
theorem ws_X1_numberOf : Cond.selects RX1 yX1_numberOf yX1_numberOf ∈ WL := wl_mem 405 (by decide +kernel) (by decide +kernel)
theorem wc_X1_numberOf : Cond.code yX1_numberOf cX1_numberOf 2 (some .int) ∈ WL := wl_mem 406 (by decide +kernel) (by decide +kernel)
theorem wm_L_48 : Cond.methodLink RL 48 yX5_fires ∈ WL := wl_mem 407 (by decide +kernel) (by decide +kernel)
theorem wi_X5_fires : Cond.instanceMethod yX5_fires ∈ WL := wl_mem 408 (by decide +kernel) (by decide +kernel)
theorem ws_X5_fires : Cond.selects RX5 yX5_fires yX5_fires ∈ WL := wl_mem 409 (by decide +kernel) (by decide +kernel)
theorem wc_X5_fires : Cond.code yX5_fires cX5_fires 2 (some .int) ∈ WL := wl_mem 410 (by decide +kernel) (by decide +kernel)
theorem wm_X5_110 : Cond.methodLink RX5 110 yX1_greatestLevel ∈ WL := wl_mem 411 (by decide +kernel) (by decide +kernel)
theorem wi_X1_greatestLevel : Cond.instanceMethod yX1_greatestLevel ∈ WL := wl_mem 412 (by decide +kernel) (by decide +kernel)
theorem ws_X1_greatestLevel : Cond.selects RX1 yX1_greatestLevel yX1_greatestLevel ∈ WL := wl_mem 413 (by decide +kernel) (by decide +kernel)
theorem wc_X1_greatestLevel : Cond.code yX1_greatestLevel cX1_greatestLevel 1 (some .int) ∈ WL := wl_mem 414 (by decide +kernel) (by decide +kernel)
theorem wm_X5_113 : Cond.methodLink RX5 113 yX1_firingsWith ∈ WL := wl_mem 415 (by decide +kernel) (by decide +kernel)
theorem wi_X1_firingsWith : Cond.instanceMethod yX1_firingsWith ∈ WL := wl_mem 416 (by decide +kernel) (by decide +kernel)
theorem ws_X1_firingsWith : Cond.selects RX1 yX1_firingsWith yX1_firingsWith ∈ WL := wl_mem 417 (by decide +kernel) (by decide +kernel)
theorem wc_X1_firingsWith : Cond.code yX1_firingsWith cX1_firingsWith 6 (some .int) ∈ WL := wl_mem 418 (by decide +kernel) (by decide +kernel)
theorem wm_L_52 : Cond.methodLink RL 52 yX5_bestLevel ∈ WL := wl_mem 419 (by decide +kernel) (by decide +kernel)
theorem wi_X5_bestLevel : Cond.instanceMethod yX5_bestLevel ∈ WL := wl_mem 420 (by decide +kernel) (by decide +kernel)
theorem ws_X5_bestLevel : Cond.selects RX5 yX5_bestLevel yX5_bestLevel ∈ WL := wl_mem 421 (by decide +kernel) (by decide +kernel)
theorem wc_X5_bestLevel : Cond.code yX5_bestLevel cX5_bestLevel 7 (some .int) ∈ WL := wl_mem 422 (by decide +kernel) (by decide +kernel)
theorem wm_L_56 : Cond.methodLink RL 56 yX5_unlike ∈ WL := wl_mem 423 (by decide +kernel) (by decide +kernel)
theorem wi_X5_unlike : Cond.instanceMethod yX5_unlike ∈ WL := wl_mem 424 (by decide +kernel) (by decide +kernel)
theorem ws_X5_unlike : Cond.selects RX5 yX5_unlike yX5_unlike ∈ WL := wl_mem 425 (by decide +kernel) (by decide +kernel)
theorem wc_X5_unlike : Cond.code yX5_unlike cX5_unlike 3 (some .int) ∈ WL := wl_mem 426 (by decide +kernel) (by decide +kernel)
theorem wm_X5_116 : Cond.methodLink RX5 116 yX1_differenceOf ∈ WL := wl_mem 427 (by decide +kernel) (by decide +kernel)
theorem wi_X1_differenceOf : Cond.instanceMethod yX1_differenceOf ∈ WL := wl_mem 428 (by decide +kernel) (by decide +kernel)
theorem ws_X1_differenceOf : Cond.selects RX1 yX1_differenceOf yX1_differenceOf ∈ WL := wl_mem 429 (by decide +kernel) (by decide +kernel)
theorem wc_X1_differenceOf : Cond.code yX1_differenceOf cX1_differenceOf 9 (some .int) ∈ WL := wl_mem 430 (by decide +kernel) (by decide +kernel)
theorem wm_X1_145 : Cond.methodLink RX1 145 yX3_behindOf ∈ WL := wl_mem 431 (by decide +kernel) (by decide +kernel)
theorem wi_X3_behindOf : Cond.instanceMethod yX3_behindOf ∈ WL := wl_mem 432 (by decide +kernel) (by decide +kernel)
theorem ws_X3_behindOf : Cond.selects RX3 yX3_behindOf yX3_behindOf ∈ WL := wl_mem 433 (by decide +kernel) (by decide +kernel)
theorem wc_X3_behindOf : Cond.code yX3_behindOf cX3_behindOf 2 (some .int) ∈ WL := wl_mem 434 (by decide +kernel) (by decide +kernel)
theorem wm_X1_148 : Cond.methodLink RX1 148 Lib.Math.abs.name ∈ WL := wl_mem 435 (by decide +kernel) (by decide +kernel)
theorem wt_jabs : Cond.static Lib.Math.abs.name ∈ WL := wl_mem 436 (by decide +kernel) (by decide +kernel)
theorem wc_jabs : Cond.code Lib.Math.abs.name Lib.Math.abs.code 1 (some .int) ∈ WL := wl_mem 437 (by decide +kernel) (by decide +kernel)
theorem wm_L_60 : Cond.methodLink RL 60 yX5_nearest ∈ WL := wl_mem 438 (by decide +kernel) (by decide +kernel)
theorem wi_X5_nearest : Cond.instanceMethod yX5_nearest ∈ WL := wl_mem 439 (by decide +kernel) (by decide +kernel)
theorem ws_X5_nearest : Cond.selects RX5 yX5_nearest yX5_nearest ∈ WL := wl_mem 440 (by decide +kernel) (by decide +kernel)
theorem wc_X5_nearest : Cond.code yX5_nearest cX5_nearest 6 (some .int) ∈ WL := wl_mem 441 (by decide +kernel) (by decide +kernel)
theorem wm_L_66 : Cond.methodLink RL 66 yX5_put ∈ WL := wl_mem 442 (by decide +kernel) (by decide +kernel)
theorem wi_X5_put : Cond.instanceMethod yX5_put ∈ WL := wl_mem 443 (by decide +kernel) (by decide +kernel)
theorem ws_X5_put : Cond.selects RX5 yX5_put yX5_put ∈ WL := wl_mem 444 (by decide +kernel) (by decide +kernel)
theorem wc_X5_put : Cond.code yX5_put cX5_put 4 (some .int) ∈ WL := wl_mem 445 (by decide +kernel) (by decide +kernel)
theorem wm_X5_119 : Cond.methodLink RX5 119 yX2_numberOfCharacters ∈ WL := wl_mem 446 (by decide +kernel) (by decide +kernel)
theorem wt_X2_numberOfCharacters : Cond.static yX2_numberOfCharacters ∈ WL := wl_mem 447 (by decide +kernel) (by decide +kernel)
theorem wc_X2_numberOfCharacters : Cond.code yX2_numberOfCharacters cX2_numberOfCharacters 8 (some .int) ∈ WL := wl_mem 448 (by decide +kernel) (by decide +kernel)
theorem wk_X2_40 : Cond.constantLong RX2 40 (255) ∈ WL := wl_mem 449 (by decide +kernel) (by decide +kernel)
theorem wk_X2_42 : Cond.constantLong RX2 42 (33) ∈ WL := wl_mem 450 (by decide +kernel) (by decide +kernel)
theorem wk_X2_44 : Cond.constantLong RX2 44 (126) ∈ WL := wl_mem 451 (by decide +kernel) (by decide +kernel)
theorem wm_X5_123 : Cond.methodLink RX5 123 yX2_append ∈ WL := wl_mem 452 (by decide +kernel) (by decide +kernel)
theorem wi_X2_append : Cond.instanceMethod yX2_append ∈ WL := wl_mem 453 (by decide +kernel) (by decide +kernel)
theorem ws_X2_append : Cond.selects RX2 yX2_append yX2_append ∈ WL := wl_mem 454 (by decide +kernel) (by decide +kernel)
theorem wc_X2_append : Cond.code yX2_append cX2_append 5 none ∈ WL := wl_mem 455 (by decide +kernel) (by decide +kernel)
theorem wn_X2_46 : Cond.methodLinkNest RX2 46 yX5_writeAt RX5 ∈ NL := nl_mem 456 (by decide +kernel) (by decide +kernel)
theorem wm_L_71 : Cond.methodLink RL 71 yX5_wipe ∈ WL := wl_mem 457 (by decide +kernel) (by decide +kernel)
theorem wi_X5_wipe : Cond.instanceMethod yX5_wipe ∈ WL := wl_mem 458 (by decide +kernel) (by decide +kernel)
theorem ws_X5_wipe : Cond.selects RX5 yX5_wipe yX5_wipe ∈ WL := wl_mem 459 (by decide +kernel) (by decide +kernel)
theorem wc_X5_wipe : Cond.code yX5_wipe cX5_wipe 2 (some .int) ∈ WL := wl_mem 460 (by decide +kernel) (by decide +kernel)
theorem wm_L_75 : Cond.methodLink RL 75 yX5_fault ∈ WL := wl_mem 461 (by decide +kernel) (by decide +kernel)
theorem wi_X5_fault : Cond.instanceMethod yX5_fault ∈ WL := wl_mem 462 (by decide +kernel) (by decide +kernel)
theorem ws_X5_fault : Cond.selects RX5 yX5_fault yX5_fault ∈ WL := wl_mem 463 (by decide +kernel) (by decide +kernel)
theorem wc_X5_fault : Cond.code yX5_fault cX5_fault 1 (some .int) ∈ WL := wl_mem 464 (by decide +kernel) (by decide +kernel)
theorem wm_X5_127 : Cond.methodLink RX5 127 yX2_read ∈ WL := wl_mem 465 (by decide +kernel) (by decide +kernel)
theorem wi_X2_read : Cond.instanceMethod yX2_read ∈ WL := wl_mem 466 (by decide +kernel) (by decide +kernel)
theorem ws_X2_read : Cond.selects RX2 yX2_read yX2_read ∈ WL := wl_mem 467 (by decide +kernel) (by decide +kernel)
theorem wc_X2_read : Cond.code yX2_read cX2_read 3 (some .int) ∈ WL := wl_mem 468 (by decide +kernel) (by decide +kernel)
theorem wm_X2_54 : Cond.methodLink RX2 54 yX2_readOrder ∈ WL := wl_mem 469 (by decide +kernel) (by decide +kernel)
theorem wi_X2_readOrder : Cond.instanceMethod yX2_readOrder ∈ WL := wl_mem 471 (by decide +kernel) (by decide +kernel)
theorem wc_X2_readOrder : Cond.code yX2_readOrder cX2_readOrder 3 (some .boolean) ∈ WL := wl_mem 472 (by decide +kernel) (by decide +kernel)
theorem wm_X2_58 : Cond.methodLink RX2 58 yX2_code ∈ WL := wl_mem 473 (by decide +kernel) (by decide +kernel)
theorem wi_X2_code : Cond.instanceMethod yX2_code ∈ WL := wl_mem 475 (by decide +kernel) (by decide +kernel)
theorem wc_X2_code : Cond.code yX2_code cX2_code 1 (some .int) ∈ WL := wl_mem 476 (by decide +kernel) (by decide +kernel)
theorem wm_X2_62 : Cond.methodLink RX2 62 yX2_readKind ∈ WL := wl_mem 477 (by decide +kernel) (by decide +kernel)
theorem wi_X2_readKind : Cond.instanceMethod yX2_readKind ∈ WL := wl_mem 479 (by decide +kernel) (by decide +kernel)
theorem wc_X2_readKind : Cond.code yX2_readKind cX2_readKind 2 (some .boolean) ∈ WL := wl_mem 480 (by decide +kernel) (by decide +kernel)
theorem wm_X2_68 : Cond.methodLink RX2 68 yX2_addStep ∈ WL := wl_mem 481 (by decide +kernel) (by decide +kernel)
theorem wi_X2_addStep : Cond.instanceMethod yX2_addStep ∈ WL := wl_mem 483 (by decide +kernel) (by decide +kernel)
theorem wc_X2_addStep : Cond.code yX2_addStep cX2_addStep 4 none ∈ WL := wl_mem 484 (by decide +kernel) (by decide +kernel)
theorem wm_X2_65 : Cond.methodLink RX2 65 yX2_readLevel ∈ WL := wl_mem 485 (by decide +kernel) (by decide +kernel)
theorem wi_X2_readLevel : Cond.instanceMethod yX2_readLevel ∈ WL := wl_mem 487 (by decide +kernel) (by decide +kernel)
theorem wc_X2_readLevel : Cond.code yX2_readLevel cX2_readLevel 1 (some .boolean) ∈ WL := wl_mem 488 (by decide +kernel) (by decide +kernel)
theorem wm_X2_75 : Cond.methodLink RX2 75 yX2_readValue ∈ WL := wl_mem 489 (by decide +kernel) (by decide +kernel)
theorem wi_X2_readValue : Cond.instanceMethod yX2_readValue ∈ WL := wl_mem 491 (by decide +kernel) (by decide +kernel)
theorem wc_X2_readValue : Cond.code yX2_readValue cX2_readValue 2 (some .boolean) ∈ WL := wl_mem 492 (by decide +kernel) (by decide +kernel)
theorem wm_X2_78 : Cond.methodLink RX2 78 yX2_readNumber ∈ WL := wl_mem 493 (by decide +kernel) (by decide +kernel)
theorem wi_X2_readNumber : Cond.instanceMethod yX2_readNumber ∈ WL := wl_mem 495 (by decide +kernel) (by decide +kernel)
theorem wc_X2_readNumber : Cond.code yX2_readNumber cX2_readNumber 3 (some .boolean) ∈ WL := wl_mem 496 (by decide +kernel) (by decide +kernel)
theorem wm_X2_81 : Cond.methodLink RX2 81 yX2_isDigit ∈ WL := wl_mem 497 (by decide +kernel) (by decide +kernel)
theorem wt_X2_isDigit : Cond.static yX2_isDigit ∈ WL := wl_mem 498 (by decide +kernel) (by decide +kernel)
theorem wc_X2_isDigit : Cond.code yX2_isDigit cX2_isDigit 1 (some .boolean) ∈ WL := wl_mem 499 (by decide +kernel) (by decide +kernel)
theorem wm_X2_72 : Cond.methodLink RX2 72 yX2_readSample ∈ WL := wl_mem 500 (by decide +kernel) (by decide +kernel)
theorem wi_X2_readSample : Cond.instanceMethod yX2_readSample ∈ WL := wl_mem 502 (by decide +kernel) (by decide +kernel)
theorem wc_X2_readSample : Cond.code yX2_readSample cX2_readSample 3 (some .boolean) ∈ WL := wl_mem 503 (by decide +kernel) (by decide +kernel)
theorem wm_L_79 : Cond.methodLink RL 79 yX5_carryOut ∈ WL := wl_mem 504 (by decide +kernel) (by decide +kernel)
theorem wi_X5_carryOut : Cond.instanceMethod yX5_carryOut ∈ WL := wl_mem 505 (by decide +kernel) (by decide +kernel)
theorem ws_X5_carryOut : Cond.selects RX5 yX5_carryOut yX5_carryOut ∈ WL := wl_mem 506 (by decide +kernel) (by decide +kernel)
theorem wc_X5_carryOut : Cond.code yX5_carryOut cX5_carryOut 4 (some .int) ∈ WL := wl_mem 507 (by decide +kernel) (by decide +kernel)
theorem wm_X5_133 : Cond.methodLink RX5 133 yX5_carryOutStep ∈ WL := wl_mem 508 (by decide +kernel) (by decide +kernel)
theorem wi_X5_carryOutStep : Cond.instanceMethod yX5_carryOutStep ∈ WL := wl_mem 510 (by decide +kernel) (by decide +kernel)
theorem wc_X5_carryOutStep : Cond.code yX5_carryOutStep cX5_carryOutStep 5 (some .int) ∈ WL := wl_mem 511 (by decide +kernel) (by decide +kernel)
theorem wm_X5_143 : Cond.methodLink RX5 143 yX5_at ∈ WL := wl_mem 512 (by decide +kernel) (by decide +kernel)
theorem wm_X5_136 : Cond.methodLink RX5 136 yX2_endsOrder ∈ WL := wl_mem 513 (by decide +kernel) (by decide +kernel)
theorem wi_X2_endsOrder : Cond.instanceMethod yX2_endsOrder ∈ WL := wl_mem 514 (by decide +kernel) (by decide +kernel)
theorem ws_X2_endsOrder : Cond.selects RX2 yX2_endsOrder yX2_endsOrder ∈ WL := wl_mem 515 (by decide +kernel) (by decide +kernel)
theorem wc_X2_endsOrder : Cond.code yX2_endsOrder cX2_endsOrder 2 (some .boolean) ∈ WL := wl_mem 516 (by decide +kernel) (by decide +kernel)
theorem wn_X2_50 : Cond.methodLinkNest RX2 50 yX5_at RX5 ∈ NL := nl_mem 517 (by decide +kernel) (by decide +kernel)
theorem wm_L_83 : Cond.methodLink RL 83 yX5_undo ∈ WL := wl_mem 518 (by decide +kernel) (by decide +kernel)
theorem wi_X5_undo : Cond.instanceMethod yX5_undo ∈ WL := wl_mem 519 (by decide +kernel) (by decide +kernel)
theorem ws_X5_undo : Cond.selects RX5 yX5_undo yX5_undo ∈ WL := wl_mem 520 (by decide +kernel) (by decide +kernel)
theorem wc_X5_undo : Cond.code yX5_undo cX5_undo 1 (some .int) ∈ WL := wl_mem 521 (by decide +kernel) (by decide +kernel)
theorem wm_X5_153 : Cond.methodLink RX5 153 yX0_bringBack ∈ WL := wl_mem 522 (by decide +kernel) (by decide +kernel)
theorem wi_X0_bringBack : Cond.instanceMethod yX0_bringBack ∈ WL := wl_mem 523 (by decide +kernel) (by decide +kernel)
theorem ws_X0_bringBack : Cond.selects RX0 yX0_bringBack yX0_bringBack ∈ WL := wl_mem 524 (by decide +kernel) (by decide +kernel)
theorem wc_X0_bringBack : Cond.code yX0_bringBack cX0_bringBack 4 none ∈ WL := wl_mem 525 (by decide +kernel) (by decide +kernel)
theorem wm_L_87 : Cond.methodLink RL 87 yX5_save ∈ WL := wl_mem 526 (by decide +kernel) (by decide +kernel)
theorem wi_X5_save : Cond.instanceMethod yX5_save ∈ WL := wl_mem 527 (by decide +kernel) (by decide +kernel)
theorem ws_X5_save : Cond.selects RX5 yX5_save yX5_save ∈ WL := wl_mem 528 (by decide +kernel) (by decide +kernel)
theorem wc_X5_save : Cond.code yX5_save cX5_save 2 (some .int) ∈ WL := wl_mem 529 (by decide +kernel) (by decide +kernel)
theorem wm_X5_156 : Cond.methodLink RX5 156 yX4_keep ∈ WL := wl_mem 530 (by decide +kernel) (by decide +kernel)
theorem wi_X4_keep : Cond.instanceMethod yX4_keep ∈ WL := wl_mem 531 (by decide +kernel) (by decide +kernel)
theorem ws_X4_keep : Cond.selects RX4 yX4_keep yX4_keep ∈ WL := wl_mem 532 (by decide +kernel) (by decide +kernel)
theorem wc_X4_keep : Cond.code yX4_keep cX4_keep 4 none ∈ WL := wl_mem 533 (by decide +kernel) (by decide +kernel)
theorem wn_X4_22 : Cond.methodLinkNest RX4 22 yX5_memoryAt RX5 ∈ NL := nl_mem 534 (by decide +kernel) (by decide +kernel)
theorem wm_X4_26 : Cond.methodLink RX4 26 yX1_takeOver ∈ WL := wl_mem 535 (by decide +kernel) (by decide +kernel)
theorem wm_L_91 : Cond.methodLink RL 91 yX5_restore ∈ WL := wl_mem 536 (by decide +kernel) (by decide +kernel)
theorem wi_X5_restore : Cond.instanceMethod yX5_restore ∈ WL := wl_mem 537 (by decide +kernel) (by decide +kernel)
theorem ws_X5_restore : Cond.selects RX5 yX5_restore yX5_restore ∈ WL := wl_mem 538 (by decide +kernel) (by decide +kernel)
theorem wc_X5_restore : Cond.code yX5_restore cX5_restore 2 (some .int) ∈ WL := wl_mem 539 (by decide +kernel) (by decide +kernel)
theorem wm_X5_160 : Cond.methodLink RX5 160 yX4_holds ∈ WL := wl_mem 540 (by decide +kernel) (by decide +kernel)
theorem wi_X4_holds : Cond.instanceMethod yX4_holds ∈ WL := wl_mem 541 (by decide +kernel) (by decide +kernel)
theorem ws_X4_holds : Cond.selects RX4 yX4_holds yX4_holds ∈ WL := wl_mem 542 (by decide +kernel) (by decide +kernel)
theorem wc_X4_holds : Cond.code yX4_holds cX4_holds 2 (some .boolean) ∈ WL := wl_mem 543 (by decide +kernel) (by decide +kernel)
theorem wm_X5_163 : Cond.methodLink RX5 163 yX4_bringBack ∈ WL := wl_mem 544 (by decide +kernel) (by decide +kernel)
theorem wi_X4_bringBack : Cond.instanceMethod yX4_bringBack ∈ WL := wl_mem 545 (by decide +kernel) (by decide +kernel)
theorem ws_X4_bringBack : Cond.selects RX4 yX4_bringBack yX4_bringBack ∈ WL := wl_mem 546 (by decide +kernel) (by decide +kernel)
theorem wc_X4_bringBack : Cond.code yX4_bringBack cX4_bringBack 4 none ∈ WL := wl_mem 547 (by decide +kernel) (by decide +kernel)
theorem wl_L_10 : Cond.classLink RL 10 RX6 ∈ WL := wl_mem 548 (by decide +kernel) (by decide +kernel)
theorem wo_X6 : Cond.instantiable RX6 13 ∈ WL := wl_mem 549 (by decide +kernel) (by decide +kernel)
theorem wm_L_12 : Cond.methodLink RL 12 yX6_init ∈ WL := wl_mem 550 (by decide +kernel) (by decide +kernel)
theorem wi_X6_init : Cond.instanceMethod yX6_init ∈ WL := wl_mem 551 (by decide +kernel) (by decide +kernel)
theorem wc_X6_init : Cond.code yX6_init cX6_init 1 none ∈ WL := wl_mem 552 (by decide +kernel) (by decide +kernel)
theorem wm_X6_1 : Cond.methodLink RX6 1 objectInit ∈ WL := wl_mem 553 (by decide +kernel) (by decide +kernel)
theorem wf_X6_7 : Cond.fieldLink RX6 7 "CaptureSegmentsModel" "all" "[I" ∈ WL := wl_mem 554 (by decide +kernel) (by decide +kernel)
theorem wf_X6_13 : Cond.fieldLink RX6 13 "CaptureSegmentsModel" "kept" "[I" ∈ WL := wl_mem 555 (by decide +kernel) (by decide +kernel)
theorem wf_X6_16 : Cond.fieldLink RX6 16 "CaptureSegmentsModel" "history" "[I" ∈ WL := wl_mem 556 (by decide +kernel) (by decide +kernel)
theorem wf_X6_28 : Cond.fieldLink RX6 28 "CaptureSegmentsModel" "historyLong" "I" ∈ WL := wl_mem 557 (by decide +kernel) (by decide +kernel)
theorem wf_X6_19 : Cond.fieldLink RX6 19 "CaptureSegmentsModel" "slots" "[I" ∈ WL := wl_mem 558 (by decide +kernel) (by decide +kernel)
theorem wf_X6_22 : Cond.fieldLink RX6 22 "CaptureSegmentsModel" "isSaved" "[I" ∈ WL := wl_mem 559 (by decide +kernel) (by decide +kernel)
theorem wf_X6_32 : Cond.fieldLink RX6 32 "CaptureSegmentsModel" "then" "I" ∈ WL := wl_mem 560 (by decide +kernel) (by decide +kernel)
theorem wf_X6_25 : Cond.fieldLink RX6 25 "CaptureSegmentsModel" "pad" "[I" ∈ WL := wl_mem 561 (by decide +kernel) (by decide +kernel)
theorem wf_X6_142 : Cond.fieldLink RX6 142 "CaptureSegmentsModel" "padLong" "I" ∈ WL := wl_mem 562 (by decide +kernel) (by decide +kernel)
theorem wf_X6_160 : Cond.fieldLink RX6 160 "CaptureSegmentsModel" "spot" "I" ∈ WL := wl_mem 563 (by decide +kernel) (by decide +kernel)
theorem wf_X6_166 : Cond.fieldLink RX6 166 "CaptureSegmentsModel" "number" "I" ∈ WL := wl_mem 564 (by decide +kernel) (by decide +kernel)
theorem wf_X6_181 : Cond.fieldLink RX6 181 "CaptureSegmentsModel" "isDone" "Z" ∈ WL := wl_mem 565 (by decide +kernel) (by decide +kernel)
theorem wf_X6_175 : Cond.fieldLink RX6 175 "CaptureSegmentsModel" "error" "I" ∈ WL := wl_mem 566 (by decide +kernel) (by decide +kernel)
theorem wm_L_17 : Cond.methodLink RL 17 yX6_set ∈ WL := wl_mem 594 (by decide +kernel) (by decide +kernel)
theorem wi_X6_set : Cond.instanceMethod yX6_set ∈ WL := wl_mem 595 (by decide +kernel) (by decide +kernel)
theorem ws_X6_set : Cond.selects RX6 yX6_set yX6_set ∈ WL := wl_mem 596 (by decide +kernel) (by decide +kernel)
theorem wc_X6_set : Cond.code yX6_set cX6_set 4 (some .int) ∈ WL := wl_mem 597 (by decide +kernel) (by decide +kernel)
theorem wm_X6_94 : Cond.methodLink RX6 94 yX6_keep ∈ WL := wl_mem 598 (by decide +kernel) (by decide +kernel)
theorem wi_X6_keep : Cond.instanceMethod yX6_keep ∈ WL := wl_mem 600 (by decide +kernel) (by decide +kernel)
theorem wc_X6_keep : Cond.code yX6_keep cX6_keep 2 none ∈ WL := wl_mem 601 (by decide +kernel) (by decide +kernel)
theorem wm_X6_97 : Cond.methodLink RX6 97 yX6_doSet ∈ WL := wl_mem 602 (by decide +kernel) (by decide +kernel)
theorem wi_X6_doSet : Cond.instanceMethod yX6_doSet ∈ WL := wl_mem 604 (by decide +kernel) (by decide +kernel)
theorem wc_X6_doSet : Cond.code yX6_doSet cX6_doSet 9 (some .int) ∈ WL := wl_mem 605 (by decide +kernel) (by decide +kernel)
theorem wm_X6_90 : Cond.methodLink RX6 90 yX6_isSetting ∈ WL := wl_mem 606 (by decide +kernel) (by decide +kernel)
theorem wt_X6_isSetting : Cond.static yX6_isSetting ∈ WL := wl_mem 607 (by decide +kernel) (by decide +kernel)
theorem wc_X6_isSetting : Cond.code yX6_isSetting cX6_isSetting 2 (some .boolean) ∈ WL := wl_mem 608 (by decide +kernel) (by decide +kernel)
theorem wk_X6_78 : Cond.constantLong RX6 78 (2) ∈ WL := wl_mem 609 (by decide +kernel) (by decide +kernel)
theorem wm_X6_67 : Cond.methodLink RX6 67 yX6_in ∈ WL := wl_mem 610 (by decide +kernel) (by decide +kernel)
theorem wt_X6_in : Cond.static yX6_in ∈ WL := wl_mem 611 (by decide +kernel) (by decide +kernel)
theorem wc_X6_in : Cond.code yX6_in cX6_in 6 (some .boolean) ∈ WL := wl_mem 612 (by decide +kernel) (by decide +kernel)
theorem wm_X6_71 : Cond.methodLink RX6 71 yX6_isSample ∈ WL := wl_mem 613 (by decide +kernel) (by decide +kernel)
theorem wt_X6_isSample : Cond.static yX6_isSample ∈ WL := wl_mem 614 (by decide +kernel) (by decide +kernel)
theorem wc_X6_isSample : Cond.code yX6_isSample cX6_isSample 1 (some .boolean) ∈ WL := wl_mem 615 (by decide +kernel) (by decide +kernel)
theorem wk_X6_63 : Cond.constantLong RX6 63 (-100) ∈ WL := wl_mem 616 (by decide +kernel) (by decide +kernel)
theorem wk_X6_65 : Cond.constantLong RX6 65 (100) ∈ WL := wl_mem 617 (by decide +kernel) (by decide +kernel)
theorem wk_X6_80 : Cond.constantLong RX6 80 (50) ∈ WL := wl_mem 618 (by decide +kernel) (by decide +kernel)
theorem wk_X6_82 : Cond.constantLong RX6 82 (32) ∈ WL := wl_mem 619 (by decide +kernel) (by decide +kernel)
theorem wk_X6_84 : Cond.constantLong RX6 84 (31) ∈ WL := wl_mem 620 (by decide +kernel) (by decide +kernel)
theorem wk_X6_86 : Cond.constantLong RX6 86 (60) ∈ WL := wl_mem 621 (by decide +kernel) (by decide +kernel)
theorem wk_X6_88 : Cond.constantLong RX6 88 (6) ∈ WL := wl_mem 622 (by decide +kernel) (by decide +kernel)
theorem wm_X6_43 : Cond.methodLink RX6 43 yX6_dropsOldest ∈ WL := wl_mem 623 (by decide +kernel) (by decide +kernel)
theorem wi_X6_dropsOldest : Cond.instanceMethod yX6_dropsOldest ∈ WL := wl_mem 625 (by decide +kernel) (by decide +kernel)
theorem wc_X6_dropsOldest : Cond.code yX6_dropsOldest cX6_dropsOldest 2 none ∈ WL := wl_mem 626 (by decide +kernel) (by decide +kernel)
theorem wm_X6_39 : Cond.methodLink RX6 39 yX6_takesOut ∈ WL := wl_mem 627 (by decide +kernel) (by decide +kernel)
theorem wi_X6_takesOut : Cond.instanceMethod yX6_takesOut ∈ WL := wl_mem 629 (by decide +kernel) (by decide +kernel)
theorem wc_X6_takesOut : Cond.code yX6_takesOut cX6_takesOut 3 none ∈ WL := wl_mem 630 (by decide +kernel) (by decide +kernel)
theorem wm_X6_101 : Cond.methodLink RX6 101 yX6_changed ∈ WL := wl_mem 631 (by decide +kernel) (by decide +kernel)
theorem wi_X6_changed : Cond.instanceMethod yX6_changed ∈ WL := wl_mem 633 (by decide +kernel) (by decide +kernel)
theorem wc_X6_changed : Cond.code yX6_changed cX6_changed 3 (some .int) ∈ WL := wl_mem 634 (by decide +kernel) (by decide +kernel)
theorem wm_L_21 : Cond.methodLink RL 21 yX6_feed ∈ WL := wl_mem 635 (by decide +kernel) (by decide +kernel)
theorem wi_X6_feed : Cond.instanceMethod yX6_feed ∈ WL := wl_mem 636 (by decide +kernel) (by decide +kernel)
theorem ws_X6_feed : Cond.selects RX6 yX6_feed yX6_feed ∈ WL := wl_mem 637 (by decide +kernel) (by decide +kernel)
theorem wc_X6_feed : Cond.code yX6_feed cX6_feed 4 (some .int) ∈ WL := wl_mem 638 (by decide +kernel) (by decide +kernel)
theorem wm_X6_105 : Cond.methodLink RX6 105 yX6_doFeed ∈ WL := wl_mem 639 (by decide +kernel) (by decide +kernel)
theorem wi_X6_doFeed : Cond.instanceMethod yX6_doFeed ∈ WL := wl_mem 641 (by decide +kernel) (by decide +kernel)
theorem wc_X6_doFeed : Cond.code yX6_doFeed cX6_doFeed 5 (some .int) ∈ WL := wl_mem 642 (by decide +kernel) (by decide +kernel)
theorem wm_X6_75 : Cond.methodLink RX6 75 yX6_comes ∈ WL := wl_mem 643 (by decide +kernel) (by decide +kernel)
theorem wi_X6_comes : Cond.instanceMethod yX6_comes ∈ WL := wl_mem 645 (by decide +kernel) (by decide +kernel)
theorem wc_X6_comes : Cond.code yX6_comes cX6_comes 3 none ∈ WL := wl_mem 646 (by decide +kernel) (by decide +kernel)
theorem wm_X6_35 : Cond.methodLink RX6 35 yX6_isFiring ∈ WL := wl_mem 647 (by decide +kernel) (by decide +kernel)
theorem wi_X6_isFiring : Cond.instanceMethod yX6_isFiring ∈ WL := wl_mem 649 (by decide +kernel) (by decide +kernel)
theorem wc_X6_isFiring : Cond.code yX6_isFiring cX6_isFiring 6 (some .boolean) ∈ WL := wl_mem 650 (by decide +kernel) (by decide +kernel)
theorem wm_X6_46 : Cond.methodLink RX6 46 yX6_isLongEnough ∈ WL := wl_mem 651 (by decide +kernel) (by decide +kernel)
theorem wi_X6_isLongEnough : Cond.instanceMethod yX6_isLongEnough ∈ WL := wl_mem 653 (by decide +kernel) (by decide +kernel)
theorem wc_X6_isLongEnough : Cond.code yX6_isLongEnough cX6_isLongEnough 1 (some .boolean) ∈ WL := wl_mem 654 (by decide +kernel) (by decide +kernel)
theorem wm_X6_50 : Cond.methodLink RX6 50 yX6_hasRoom ∈ WL := wl_mem 655 (by decide +kernel) (by decide +kernel)
theorem wi_X6_hasRoom : Cond.instanceMethod yX6_hasRoom ∈ WL := wl_mem 657 (by decide +kernel) (by decide +kernel)
theorem wc_X6_hasRoom : Cond.code yX6_hasRoom cX6_hasRoom 1 (some .boolean) ∈ WL := wl_mem 658 (by decide +kernel) (by decide +kernel)
theorem wm_X6_53 : Cond.methodLink RX6 53 yX6_captures ∈ WL := wl_mem 659 (by decide +kernel) (by decide +kernel)
theorem wi_X6_captures : Cond.instanceMethod yX6_captures ∈ WL := wl_mem 661 (by decide +kernel) (by decide +kernel)
theorem wc_X6_captures : Cond.code yX6_captures cX6_captures 1 none ∈ WL := wl_mem 662 (by decide +kernel) (by decide +kernel)
theorem wm_X6_56 : Cond.methodLink RX6 56 yX6_lacking ∈ WL := wl_mem 663 (by decide +kernel) (by decide +kernel)
theorem wi_X6_lacking : Cond.instanceMethod yX6_lacking ∈ WL := wl_mem 665 (by decide +kernel) (by decide +kernel)
theorem wc_X6_lacking : Cond.code yX6_lacking cX6_lacking 1 (some .int) ∈ WL := wl_mem 666 (by decide +kernel) (by decide +kernel)
theorem wm_X6_60 : Cond.methodLink RX6 60 yX6_completes ∈ WL := wl_mem 667 (by decide +kernel) (by decide +kernel)
theorem wi_X6_completes : Cond.instanceMethod yX6_completes ∈ WL := wl_mem 669 (by decide +kernel) (by decide +kernel)
theorem wc_X6_completes : Cond.code yX6_completes cX6_completes 2 none ∈ WL := wl_mem 670 (by decide +kernel) (by decide +kernel)
theorem wm_L_26 : Cond.methodLink RL 26 yX6_clear ∈ WL := wl_mem 671 (by decide +kernel) (by decide +kernel)
theorem wi_X6_clear : Cond.instanceMethod yX6_clear ∈ WL := wl_mem 672 (by decide +kernel) (by decide +kernel)
theorem ws_X6_clear : Cond.selects RX6 yX6_clear yX6_clear ∈ WL := wl_mem 673 (by decide +kernel) (by decide +kernel)
theorem wc_X6_clear : Cond.code yX6_clear cX6_clear 1 (some .int) ∈ WL := wl_mem 674 (by decide +kernel) (by decide +kernel)
theorem wm_X6_108 : Cond.methodLink RX6 108 yX6_doClear ∈ WL := wl_mem 675 (by decide +kernel) (by decide +kernel)
theorem wi_X6_doClear : Cond.instanceMethod yX6_doClear ∈ WL := wl_mem 677 (by decide +kernel) (by decide +kernel)
theorem wc_X6_doClear : Cond.code yX6_doClear cX6_doClear 2 (some .int) ∈ WL := wl_mem 678 (by decide +kernel) (by decide +kernel)
theorem wm_L_31 : Cond.methodLink RL 31 yX6_drop ∈ WL := wl_mem 679 (by decide +kernel) (by decide +kernel)
theorem wi_X6_drop : Cond.instanceMethod yX6_drop ∈ WL := wl_mem 680 (by decide +kernel) (by decide +kernel)
theorem ws_X6_drop : Cond.selects RX6 yX6_drop yX6_drop ∈ WL := wl_mem 681 (by decide +kernel) (by decide +kernel)
theorem wc_X6_drop : Cond.code yX6_drop cX6_drop 2 (some .int) ∈ WL := wl_mem 682 (by decide +kernel) (by decide +kernel)
theorem wm_X6_111 : Cond.methodLink RX6 111 yX6_isSegment ∈ WL := wl_mem 683 (by decide +kernel) (by decide +kernel)
theorem wi_X6_isSegment : Cond.instanceMethod yX6_isSegment ∈ WL := wl_mem 685 (by decide +kernel) (by decide +kernel)
theorem wc_X6_isSegment : Cond.code yX6_isSegment cX6_isSegment 2 (some .boolean) ∈ WL := wl_mem 686 (by decide +kernel) (by decide +kernel)
theorem wm_L_35 : Cond.methodLink RL 35 yX6_segment ∈ WL := wl_mem 687 (by decide +kernel) (by decide +kernel)
theorem wi_X6_segment : Cond.instanceMethod yX6_segment ∈ WL := wl_mem 688 (by decide +kernel) (by decide +kernel)
theorem ws_X6_segment : Cond.selects RX6 yX6_segment yX6_segment ∈ WL := wl_mem 689 (by decide +kernel) (by decide +kernel)
theorem wc_X6_segment : Cond.code yX6_segment cX6_segment 3 (some .int) ∈ WL := wl_mem 690 (by decide +kernel) (by decide +kernel)
theorem wm_X6_114 : Cond.methodLink RX6 114 yX6_of ∈ WL := wl_mem 691 (by decide +kernel) (by decide +kernel)
theorem wi_X6_of : Cond.instanceMethod yX6_of ∈ WL := wl_mem 693 (by decide +kernel) (by decide +kernel)
theorem wc_X6_of : Cond.code yX6_of cX6_of 3 (some .int) ∈ WL := wl_mem 694 (by decide +kernel) (by decide +kernel)
theorem wm_X6_123 : Cond.methodLink RX6 123 yX6_least ∈ WL := wl_mem 695 (by decide +kernel) (by decide +kernel)
theorem wi_X6_least : Cond.instanceMethod yX6_least ∈ WL := wl_mem 697 (by decide +kernel) (by decide +kernel)
theorem wc_X6_least : Cond.code yX6_least cX6_least 5 (some .int) ∈ WL := wl_mem 698 (by decide +kernel) (by decide +kernel)
theorem wm_X6_120 : Cond.methodLink RX6 120 yX6_sampleAt ∈ WL := wl_mem 699 (by decide +kernel) (by decide +kernel)
theorem wi_X6_sampleAt : Cond.instanceMethod yX6_sampleAt ∈ WL := wl_mem 701 (by decide +kernel) (by decide +kernel)
theorem wc_X6_sampleAt : Cond.code yX6_sampleAt cX6_sampleAt 3 (some .int) ∈ WL := wl_mem 702 (by decide +kernel) (by decide +kernel)
theorem wm_X6_117 : Cond.methodLink RX6 117 yX6_numberOf ∈ WL := wl_mem 703 (by decide +kernel) (by decide +kernel)
theorem wi_X6_numberOf : Cond.instanceMethod yX6_numberOf ∈ WL := wl_mem 705 (by decide +kernel) (by decide +kernel)
theorem wc_X6_numberOf : Cond.code yX6_numberOf cX6_numberOf 3 (some .int) ∈ WL := wl_mem 706 (by decide +kernel) (by decide +kernel)
theorem wm_X6_126 : Cond.methodLink RX6 126 yX6_greatest ∈ WL := wl_mem 707 (by decide +kernel) (by decide +kernel)
theorem wi_X6_greatest : Cond.instanceMethod yX6_greatest ∈ WL := wl_mem 709 (by decide +kernel) (by decide +kernel)
theorem wc_X6_greatest : Cond.code yX6_greatest cX6_greatest 5 (some .int) ∈ WL := wl_mem 710 (by decide +kernel) (by decide +kernel)
theorem wm_X6_129 : Cond.methodLink RX6 129 yX6_sumOf ∈ WL := wl_mem 711 (by decide +kernel) (by decide +kernel)
theorem wi_X6_sumOf : Cond.instanceMethod yX6_sumOf ∈ WL := wl_mem 713 (by decide +kernel) (by decide +kernel)
theorem wc_X6_sumOf : Cond.code yX6_sumOf cX6_sumOf 4 (some .int) ∈ WL := wl_mem 714 (by decide +kernel) (by decide +kernel)
theorem wm_X6_132 : Cond.methodLink RX6 132 yX6_risesIn ∈ WL := wl_mem 715 (by decide +kernel) (by decide +kernel)
theorem wi_X6_risesIn : Cond.instanceMethod yX6_risesIn ∈ WL := wl_mem 717 (by decide +kernel) (by decide +kernel)
theorem wc_X6_risesIn : Cond.code yX6_risesIn cX6_risesIn 4 (some .int) ∈ WL := wl_mem 718 (by decide +kernel) (by decide +kernel)
theorem wm_L_39 : Cond.methodLink RL 39 yX6_sampleOf ∈ WL := wl_mem 719 (by decide +kernel) (by decide +kernel)
theorem wi_X6_sampleOf : Cond.instanceMethod yX6_sampleOf ∈ WL := wl_mem 720 (by decide +kernel) (by decide +kernel)
theorem ws_X6_sampleOf : Cond.selects RX6 yX6_sampleOf yX6_sampleOf ∈ WL := wl_mem 721 (by decide +kernel) (by decide +kernel)
theorem wc_X6_sampleOf : Cond.code yX6_sampleOf cX6_sampleOf 3 (some .int) ∈ WL := wl_mem 722 (by decide +kernel) (by decide +kernel)
theorem wm_L_43 : Cond.methodLink RL 43 yX6_sample ∈ WL := wl_mem 723 (by decide +kernel) (by decide +kernel)
theorem wi_X6_sample : Cond.instanceMethod yX6_sample ∈ WL := wl_mem 724 (by decide +kernel) (by decide +kernel)
theorem ws_X6_sample : Cond.selects RX6 yX6_sample yX6_sample ∈ WL := wl_mem 725 (by decide +kernel) (by decide +kernel)
theorem wc_X6_sample : Cond.code yX6_sample cX6_sample 2 (some .int) ∈ WL := wl_mem 726 (by decide +kernel) (by decide +kernel)
theorem wm_L_47 : Cond.methodLink RL 47 yX6_count ∈ WL := wl_mem 727 (by decide +kernel) (by decide +kernel)
theorem wi_X6_count : Cond.instanceMethod yX6_count ∈ WL := wl_mem 728 (by decide +kernel) (by decide +kernel)
theorem ws_X6_count : Cond.selects RX6 yX6_count yX6_count ∈ WL := wl_mem 729 (by decide +kernel) (by decide +kernel)
theorem wc_X6_count : Cond.code yX6_count cX6_count 2 (some .int) ∈ WL := wl_mem 730 (by decide +kernel) (by decide +kernel)
theorem wk_X6_135 : Cond.constantLong RX6 135 (10) ∈ WL := wl_mem 731 (by decide +kernel) (by decide +kernel)
theorem wk_X6_137 : Cond.constantLong RX6 137 (19) ∈ WL := wl_mem 732 (by decide +kernel) (by decide +kernel)
theorem wm_X6_139 : Cond.methodLink RX6 139 yX6_phase ∈ WL := wl_mem 733 (by decide +kernel) (by decide +kernel)
theorem wi_X6_phase : Cond.instanceMethod yX6_phase ∈ WL := wl_mem 735 (by decide +kernel) (by decide +kernel)
theorem wc_X6_phase : Cond.code yX6_phase cX6_phase 1 (some .int) ∈ WL := wl_mem 736 (by decide +kernel) (by decide +kernel)
theorem wm_L_51 : Cond.methodLink RL 51 yX6_fires ∈ WL := wl_mem 737 (by decide +kernel) (by decide +kernel)
theorem wi_X6_fires : Cond.instanceMethod yX6_fires ∈ WL := wl_mem 738 (by decide +kernel) (by decide +kernel)
theorem ws_X6_fires : Cond.selects RX6 yX6_fires yX6_fires ∈ WL := wl_mem 739 (by decide +kernel) (by decide +kernel)
theorem wc_X6_fires : Cond.code yX6_fires cX6_fires 2 (some .int) ∈ WL := wl_mem 740 (by decide +kernel) (by decide +kernel)
theorem wm_X6_145 : Cond.methodLink RX6 145 yX6_isLevel ∈ WL := wl_mem 741 (by decide +kernel) (by decide +kernel)
theorem wi_X6_isLevel : Cond.instanceMethod yX6_isLevel ∈ WL := wl_mem 743 (by decide +kernel) (by decide +kernel)
theorem wc_X6_isLevel : Cond.code yX6_isLevel cX6_isLevel 2 (some .boolean) ∈ WL := wl_mem 744 (by decide +kernel) (by decide +kernel)
theorem wm_X6_148 : Cond.methodLink RX6 148 yX6_firings ∈ WL := wl_mem 745 (by decide +kernel) (by decide +kernel)
theorem wi_X6_firings : Cond.instanceMethod yX6_firings ∈ WL := wl_mem 747 (by decide +kernel) (by decide +kernel)
theorem wc_X6_firings : Cond.code yX6_firings cX6_firings 5 (some .int) ∈ WL := wl_mem 748 (by decide +kernel) (by decide +kernel)
theorem wm_L_55 : Cond.methodLink RL 55 yX6_bestLevel ∈ WL := wl_mem 749 (by decide +kernel) (by decide +kernel)
theorem wi_X6_bestLevel : Cond.instanceMethod yX6_bestLevel ∈ WL := wl_mem 750 (by decide +kernel) (by decide +kernel)
theorem ws_X6_bestLevel : Cond.selects RX6 yX6_bestLevel yX6_bestLevel ∈ WL := wl_mem 751 (by decide +kernel) (by decide +kernel)
theorem wc_X6_bestLevel : Cond.code yX6_bestLevel cX6_bestLevel 6 (some .int) ∈ WL := wl_mem 752 (by decide +kernel) (by decide +kernel)
theorem wm_L_59 : Cond.methodLink RL 59 yX6_unlike ∈ WL := wl_mem 753 (by decide +kernel) (by decide +kernel)
theorem wi_X6_unlike : Cond.instanceMethod yX6_unlike ∈ WL := wl_mem 754 (by decide +kernel) (by decide +kernel)
theorem ws_X6_unlike : Cond.selects RX6 yX6_unlike yX6_unlike ∈ WL := wl_mem 755 (by decide +kernel) (by decide +kernel)
theorem wc_X6_unlike : Cond.code yX6_unlike cX6_unlike 3 (some .int) ∈ WL := wl_mem 756 (by decide +kernel) (by decide +kernel)
theorem wm_X6_151 : Cond.methodLink RX6 151 yX6_unlikeOf ∈ WL := wl_mem 757 (by decide +kernel) (by decide +kernel)
theorem wi_X6_unlikeOf : Cond.instanceMethod yX6_unlikeOf ∈ WL := wl_mem 759 (by decide +kernel) (by decide +kernel)
theorem wc_X6_unlikeOf : Cond.code yX6_unlikeOf cX6_unlikeOf 10 (some .int) ∈ WL := wl_mem 760 (by decide +kernel) (by decide +kernel)
theorem wm_L_63 : Cond.methodLink RL 63 yX6_nearest ∈ WL := wl_mem 761 (by decide +kernel) (by decide +kernel)
theorem wi_X6_nearest : Cond.instanceMethod yX6_nearest ∈ WL := wl_mem 762 (by decide +kernel) (by decide +kernel)
theorem ws_X6_nearest : Cond.selects RX6 yX6_nearest yX6_nearest ∈ WL := wl_mem 763 (by decide +kernel) (by decide +kernel)
theorem wc_X6_nearest : Cond.code yX6_nearest cX6_nearest 7 (some .int) ∈ WL := wl_mem 764 (by decide +kernel) (by decide +kernel)
theorem wm_L_70 : Cond.methodLink RL 70 yX6_put ∈ WL := wl_mem 765 (by decide +kernel) (by decide +kernel)
theorem wi_X6_put : Cond.instanceMethod yX6_put ∈ WL := wl_mem 766 (by decide +kernel) (by decide +kernel)
theorem ws_X6_put : Cond.selects RX6 yX6_put yX6_put ∈ WL := wl_mem 767 (by decide +kernel) (by decide +kernel)
theorem wc_X6_put : Cond.code yX6_put cX6_put 8 (some .int) ∈ WL := wl_mem 768 (by decide +kernel) (by decide +kernel)
theorem wk_X6_154 : Cond.constantLong RX6 154 (255) ∈ WL := wl_mem 769 (by decide +kernel) (by decide +kernel)
theorem wk_X6_156 : Cond.constantLong RX6 156 (33) ∈ WL := wl_mem 770 (by decide +kernel) (by decide +kernel)
theorem wk_X6_158 : Cond.constantLong RX6 158 (126) ∈ WL := wl_mem 771 (by decide +kernel) (by decide +kernel)
theorem wm_L_74 : Cond.methodLink RL 74 yX6_wipe ∈ WL := wl_mem 772 (by decide +kernel) (by decide +kernel)
theorem wi_X6_wipe : Cond.instanceMethod yX6_wipe ∈ WL := wl_mem 773 (by decide +kernel) (by decide +kernel)
theorem ws_X6_wipe : Cond.selects RX6 yX6_wipe yX6_wipe ∈ WL := wl_mem 774 (by decide +kernel) (by decide +kernel)
theorem wc_X6_wipe : Cond.code yX6_wipe cX6_wipe 2 (some .int) ∈ WL := wl_mem 775 (by decide +kernel) (by decide +kernel)
theorem wm_L_78 : Cond.methodLink RL 78 yX6_fault ∈ WL := wl_mem 776 (by decide +kernel) (by decide +kernel)
theorem wi_X6_fault : Cond.instanceMethod yX6_fault ∈ WL := wl_mem 777 (by decide +kernel) (by decide +kernel)
theorem ws_X6_fault : Cond.selects RX6 yX6_fault yX6_fault ∈ WL := wl_mem 778 (by decide +kernel) (by decide +kernel)
theorem wc_X6_fault : Cond.code yX6_fault cX6_fault 2 (some .int) ∈ WL := wl_mem 779 (by decide +kernel) (by decide +kernel)
theorem wm_X6_191 : Cond.methodLink RX6 191 yX6_readsOrder ∈ WL := wl_mem 780 (by decide +kernel) (by decide +kernel)
theorem wi_X6_readsOrder : Cond.instanceMethod yX6_readsOrder ∈ WL := wl_mem 782 (by decide +kernel) (by decide +kernel)
theorem wc_X6_readsOrder : Cond.code yX6_readsOrder cX6_readsOrder 1 (some .boolean) ∈ WL := wl_mem 783 (by decide +kernel) (by decide +kernel)
theorem wm_X6_169 : Cond.methodLink RX6 169 yX6_takes ∈ WL := wl_mem 784 (by decide +kernel) (by decide +kernel)
theorem wi_X6_takes : Cond.instanceMethod yX6_takes ∈ WL := wl_mem 786 (by decide +kernel) (by decide +kernel)
theorem wc_X6_takes : Cond.code yX6_takes cX6_takes 3 (some .boolean) ∈ WL := wl_mem 787 (by decide +kernel) (by decide +kernel)
theorem wm_X6_163 : Cond.methodLink RX6 163 yX6_isHere ∈ WL := wl_mem 788 (by decide +kernel) (by decide +kernel)
theorem wi_X6_isHere : Cond.instanceMethod yX6_isHere ∈ WL := wl_mem 790 (by decide +kernel) (by decide +kernel)
theorem wc_X6_isHere : Cond.code yX6_isHere cX6_isHere 3 (some .boolean) ∈ WL := wl_mem 791 (by decide +kernel) (by decide +kernel)
theorem wm_X6_185 : Cond.methodLink RX6 185 yX6_does ∈ WL := wl_mem 792 (by decide +kernel) (by decide +kernel)
theorem wi_X6_does : Cond.instanceMethod yX6_does ∈ WL := wl_mem 794 (by decide +kernel) (by decide +kernel)
theorem wc_X6_does : Cond.code yX6_does cX6_does 2 none ∈ WL := wl_mem 795 (by decide +kernel) (by decide +kernel)
theorem wm_X6_178 : Cond.methodLink RX6 178 yX6_readsValue ∈ WL := wl_mem 796 (by decide +kernel) (by decide +kernel)
theorem wi_X6_readsValue : Cond.instanceMethod yX6_readsValue ∈ WL := wl_mem 798 (by decide +kernel) (by decide +kernel)
theorem wc_X6_readsValue : Cond.code yX6_readsValue cX6_readsValue 3 (some .boolean) ∈ WL := wl_mem 799 (by decide +kernel) (by decide +kernel)
theorem wm_X6_172 : Cond.methodLink RX6 172 yX6_readsNumber ∈ WL := wl_mem 800 (by decide +kernel) (by decide +kernel)
theorem wi_X6_readsNumber : Cond.instanceMethod yX6_readsNumber ∈ WL := wl_mem 802 (by decide +kernel) (by decide +kernel)
theorem wc_X6_readsNumber : Cond.code yX6_readsNumber cX6_readsNumber 1 (some .boolean) ∈ WL := wl_mem 803 (by decide +kernel) (by decide +kernel)
theorem wm_X6_188 : Cond.methodLink RX6 188 yX6_readsSamples ∈ WL := wl_mem 804 (by decide +kernel) (by decide +kernel)
theorem wi_X6_readsSamples : Cond.instanceMethod yX6_readsSamples ∈ WL := wl_mem 806 (by decide +kernel) (by decide +kernel)
theorem wc_X6_readsSamples : Cond.code yX6_readsSamples cX6_readsSamples 3 (some .boolean) ∈ WL := wl_mem 807 (by decide +kernel) (by decide +kernel)
theorem wm_L_82 : Cond.methodLink RL 82 yX6_carryOut ∈ WL := wl_mem 808 (by decide +kernel) (by decide +kernel)
theorem wi_X6_carryOut : Cond.instanceMethod yX6_carryOut ∈ WL := wl_mem 809 (by decide +kernel) (by decide +kernel)
theorem ws_X6_carryOut : Cond.selects RX6 yX6_carryOut yX6_carryOut ∈ WL := wl_mem 810 (by decide +kernel) (by decide +kernel)
theorem wc_X6_carryOut : Cond.code yX6_carryOut cX6_carryOut 4 (some .int) ∈ WL := wl_mem 811 (by decide +kernel) (by decide +kernel)
theorem wm_X6_194 : Cond.methodLink RX6 194 yX6_fault ∈ WL := wl_mem 812 (by decide +kernel) (by decide +kernel)
theorem wm_L_86 : Cond.methodLink RL 86 yX6_undo ∈ WL := wl_mem 813 (by decide +kernel) (by decide +kernel)
theorem wi_X6_undo : Cond.instanceMethod yX6_undo ∈ WL := wl_mem 814 (by decide +kernel) (by decide +kernel)
theorem ws_X6_undo : Cond.selects RX6 yX6_undo yX6_undo ∈ WL := wl_mem 815 (by decide +kernel) (by decide +kernel)
theorem wc_X6_undo : Cond.code yX6_undo cX6_undo 2 (some .int) ∈ WL := wl_mem 816 (by decide +kernel) (by decide +kernel)
theorem wm_L_90 : Cond.methodLink RL 90 yX6_save ∈ WL := wl_mem 817 (by decide +kernel) (by decide +kernel)
theorem wi_X6_save : Cond.instanceMethod yX6_save ∈ WL := wl_mem 818 (by decide +kernel) (by decide +kernel)
theorem ws_X6_save : Cond.selects RX6 yX6_save yX6_save ∈ WL := wl_mem 819 (by decide +kernel) (by decide +kernel)
theorem wc_X6_save : Cond.code yX6_save cX6_save 3 (some .int) ∈ WL := wl_mem 820 (by decide +kernel) (by decide +kernel)
theorem wm_L_94 : Cond.methodLink RL 94 yX6_restore ∈ WL := wl_mem 821 (by decide +kernel) (by decide +kernel)
theorem wi_X6_restore : Cond.instanceMethod yX6_restore ∈ WL := wl_mem 822 (by decide +kernel) (by decide +kernel)
theorem ws_X6_restore : Cond.selects RX6 yX6_restore yX6_restore ∈ WL := wl_mem 823 (by decide +kernel) (by decide +kernel)
theorem wc_X6_restore : Cond.code yX6_restore cX6_restore 3 (some .int) ∈ WL := wl_mem 824 (by decide +kernel) (by decide +kernel)
theorem wk_L_64 : Cond.constantLong RL 64 (4294967295) ∈ WL := wl_mem 825 (by decide +kernel) (by decide +kernel)
-- not printed: laysFinal 22, soleField 48, lays 26, superclass 7, laysStatic 3, arrayOver 1, privateMethod 48
set_option maxRecDepth 20000 in
theorem inX0 : ∀ w ∈ u_ws RX0 TX0 3, w ∈ WL := fun w h => List.mem_filter.mpr ⟨(goodIn_r (big := lw_tbl) (u_ws RX0 TX0 3) [160, 162, 164] (by decide +kernel) (by decide +kernel) w h).1, List.all_eq_true.mp (by decide +kernel : (u_ws RX0 TX0 3).all goodWord = true) w h⟩
set_option maxRecDepth 20000 in
theorem inX1 : ∀ w ∈ u_ws RX1 TX1 15, w ∈ WL := fun w h => List.mem_filter.mpr ⟨(goodIn_r (big := lw_tbl) (u_ws RX1 TX1 15) [116, 118, 120, 122, 124, 126, 128, 130, 132, 134, 136, 138, 140, 142, 144] (by decide +kernel) (by decide +kernel) w h).1, List.all_eq_true.mp (by decide +kernel : (u_ws RX1 TX1 15).all goodWord = true) w h⟩
set_option maxRecDepth 20000 in
theorem inX2 : ∀ w ∈ u_ws RX2 TX2 9, w ∈ WL := fun w h => List.mem_filter.mpr ⟨(goodIn_r (big := lw_tbl) (u_ws RX2 TX2 9) [203, 205, 207, 209, 211, 213, 215, 217, 219] (by decide +kernel) (by decide +kernel) w h).1, List.all_eq_true.mp (by decide +kernel : (u_ws RX2 TX2 9).all goodWord = true) w h⟩
set_option maxRecDepth 20000 in
theorem inX3 : ∀ w ∈ u_ws RX3 TX3 2, w ∈ WL := fun w h => List.mem_filter.mpr ⟨(goodIn_r (big := lw_tbl) (u_ws RX3 TX3 2) [82, 84] (by decide +kernel) (by decide +kernel) w h).1, List.all_eq_true.mp (by decide +kernel : (u_ws RX3 TX3 2).all goodWord = true) w h⟩
set_option maxRecDepth 20000 in
theorem inX4 : ∀ w ∈ u_ws RX4 TX4 2, w ∈ WL := fun w h => List.mem_filter.mpr ⟨(goodIn_r (big := lw_tbl) (u_ws RX4 TX4 2) [177, 179] (by decide +kernel) (by decide +kernel) w h).1, List.all_eq_true.mp (by decide +kernel : (u_ws RX4 TX4 2).all goodWord = true) w h⟩
set_option maxRecDepth 20000 in
theorem inX5 : ∀ w ∈ u_ws RX5 TX5 4, w ∈ WL := fun w h => List.mem_filter.mpr ⟨(goodIn_r (big := lw_tbl) (u_ws RX5 TX5 4) [226, 228, 230, 232] (by decide +kernel) (by decide +kernel) w h).1, List.all_eq_true.mp (by decide +kernel : (u_ws RX5 TX5 4).all goodWord = true) w h⟩
set_option maxRecDepth 20000 in
theorem inX6 : ∀ w ∈ u_ws RX6 TX6 13, w ∈ WL := fun w h => List.mem_filter.mpr ⟨(goodIn_r (big := lw_tbl) (u_ws RX6 TX6 13) [567, 569, 571, 573, 575, 577, 579, 581, 583, 585, 587, 589, 591] (by decide +kernel) (by decide +kernel) w h).1, List.all_eq_true.mp (by decide +kernel : (u_ws RX6 TX6 13).all goodWord = true) w h⟩
theorem k_X5_9 : xLI RX5 9 yX1_init cX1_init 1 0 := ⟨⟨wc_X1_init, wz_X1, wm_X5_9, wi_X1_init, rfl⟩, by decide +kernel⟩
theorem k_X5_18 : xLI RX5 18 yX0_init cX0_init 2 0 := ⟨⟨wc_X0_init, wz_X0, wm_X5_18, wi_X0_init, rfl⟩, by decide +kernel⟩
theorem k_X5_25 : xLI RX5 25 yX4_init cX4_init 2 0 := ⟨⟨wc_X4_init, wz_X4, wm_X5_25, wi_X4_init, rfl⟩, by decide +kernel⟩
theorem k_X5_32 : xLIN RX5 32 yX2_init RX5 cX2_init 1 0 := ⟨⟨wc_X2_init, wz_X2, wn_X5_32, wi_X2_init, rfl⟩, by decide +kernel⟩
theorem k_X5_37 : xLV RX5 37 RX1 yX1_errorOfSetting cX1_errorOfSetting 3 (some .int) 2 := ⟨gi_V wm_X5_37 wi_X1_errorOfSetting ws_X1_errorOfSetting wz_X1 wc_X1_errorOfSetting, by decide +kernel⟩
theorem k_X5_41 : xLV RX5 41 RX0 yX0_record cX0_record 3 none 1 := ⟨gi_V wm_X5_41 wi_X0_record ws_X0_record wz_X0 wc_X0_record, by decide +kernel⟩
theorem k_X5_45 : xLV RX5 45 RX1 yX1_changeSetting cX1_changeSetting 4 (some .int) 2 := ⟨gi_V wm_X5_45 wi_X1_changeSetting ws_X1_changeSetting wz_X1 wc_X1_changeSetting, by decide +kernel⟩
theorem k_X5_48 : xLV RX5 48 RX1 yX1_errorOfSamples cX1_errorOfSamples 3 (some .int) 2 := ⟨gi_V wm_X5_48 wi_X1_errorOfSamples ws_X1_errorOfSamples wz_X1 wc_X1_errorOfSamples, by decide +kernel⟩
theorem k_X5_51 : xLV RX5 51 RX1 yX1_takeSamples cX1_takeSamples 5 (some .int) 2 := ⟨gi_V wm_X5_51 wi_X1_takeSamples ws_X1_takeSamples wz_X1 wc_X1_takeSamples, by decide +kernel⟩
theorem k_X5_54 : xLV RX5 54 RX1 yX1_forget cX1_forget 2 (some .int) 0 := ⟨gi_V wm_X5_54 wi_X1_forget ws_X1_forget wz_X1 wc_X1_forget, by decide +kernel⟩
theorem k_X5_62 : xLV RX5 62 RX3 yX3_has cX3_has 2 (some .boolean) 1 := ⟨gi_V wm_X5_62 wi_X3_has ws_X3_has wz_X3 wc_X3_has, by decide +kernel⟩
theorem k_X5_68 : xLV RX5 68 RX3 yX3_removeAt cX3_removeAt 3 none 1 := ⟨gi_V wm_X5_68 wi_X3_removeAt ws_X3_removeAt wz_X3 wc_X3_removeAt, by decide +kernel⟩
theorem k_X5_76 : xLV RX5 76 RX3 yX3_numberOf cX3_numberOf 3 (some .int) 2 := ⟨gi_V wm_X5_76 wi_X3_numberOf ws_X3_numberOf wz_X3 wc_X3_numberOf, by decide +kernel⟩
theorem k_X5_79 : xLV RX5 79 RX1 yX1_leastOf cX1_leastOf 6 (some .int) 1 := ⟨gi_V wm_X5_79 wi_X1_leastOf ws_X1_leastOf wz_X1 wc_X1_leastOf, by decide +kernel⟩
theorem k_X5_83 : xLV RX5 83 RX1 yX1_greatestOf cX1_greatestOf 6 (some .int) 1 := ⟨gi_V wm_X5_83 wi_X1_greatestOf ws_X1_greatestOf wz_X1 wc_X1_greatestOf, by decide +kernel⟩
theorem k_X5_86 : xLV RX5 86 RX1 yX1_sumOf cX1_sumOf 6 (some .int) 1 := ⟨gi_V wm_X5_86 wi_X1_sumOf ws_X1_sumOf wz_X1 wc_X1_sumOf, by decide +kernel⟩
theorem k_X5_89 : xLV RX5 89 RX1 yX1_upsOf cX1_upsOf 6 (some .int) 1 := ⟨gi_V wm_X5_89 wi_X1_upsOf ws_X1_upsOf wz_X1 wc_X1_upsOf, by decide +kernel⟩
theorem k_X5_92 : xLV RX5 92 RX3 yX3_firstOf cX3_firstOf 2 (some .int) 1 := ⟨gi_V wm_X5_92 wi_X3_firstOf ws_X3_firstOf wz_X3 wc_X3_firstOf, by decide +kernel⟩
theorem k_X5_95 : xLV RX5 95 RX1 yX1_sampleAt cX1_sampleAt 2 (some .int) 1 := ⟨gi_V wm_X5_95 wi_X1_sampleAt ws_X1_sampleAt wz_X1 wc_X1_sampleAt, by decide +kernel⟩
theorem k_X5_105 : xLV RX5 105 RX1 yX1_settingOf cX1_settingOf 2 (some .int) 1 := ⟨gi_V wm_X5_105 wi_X1_settingOf ws_X1_settingOf wz_X1 wc_X1_settingOf, by decide +kernel⟩
theorem k_X5_108 : xLV RX5 108 RX1 yX1_numberOf cX1_numberOf 2 (some .int) 1 := ⟨gi_V wm_X5_108 wi_X1_numberOf ws_X1_numberOf wz_X1 wc_X1_numberOf, by decide +kernel⟩
theorem k_X5_110 : xLV RX5 110 RX1 yX1_greatestLevel cX1_greatestLevel 1 (some .int) 0 := ⟨gi_V wm_X5_110 wi_X1_greatestLevel ws_X1_greatestLevel wz_X1 wc_X1_greatestLevel, by decide +kernel⟩
theorem k_X5_113 : xLV RX5 113 RX1 yX1_firingsWith cX1_firingsWith 6 (some .int) 1 := ⟨gi_V wm_X5_113 wi_X1_firingsWith ws_X1_firingsWith wz_X1 wc_X1_firingsWith, by decide +kernel⟩
theorem k_X5_116 : xLV RX5 116 RX1 yX1_differenceOf cX1_differenceOf 9 (some .int) 2 := ⟨gi_V wm_X5_116 wi_X1_differenceOf ws_X1_differenceOf wz_X1 wc_X1_differenceOf, by decide +kernel⟩
theorem k_X5_119 : xLS RX5 119 yX2_numberOfCharacters cX2_numberOfCharacters 8 (some .int) 1 := ⟨gi_S wm_X5_119 wt_X2_numberOfCharacters wz_X2 wc_X2_numberOfCharacters, by decide +kernel⟩
theorem k_X5_123 : xLV RX5 123 RX2 yX2_append cX2_append 5 none 2 := ⟨gi_V wm_X5_123 wi_X2_append ws_X2_append wz_X2 wc_X2_append, by decide +kernel⟩
theorem k_X5_127 : xLV RX5 127 RX2 yX2_read cX2_read 3 (some .int) 0 := ⟨gi_V wm_X5_127 wi_X2_read ws_X2_read wz_X2 wc_X2_read, by decide +kernel⟩
theorem k_X5_133 : xLV RX5 133 RX5 yX5_carryOutStep cX5_carryOutStep 5 (some .int) 1 := ⟨gi_V wm_X5_133 wi_X5_carryOutStep ws_X5_carryOutStep wz_X5 wc_X5_carryOutStep, by decide +kernel⟩
theorem k_X5_136 : xLV RX5 136 RX2 yX2_endsOrder cX2_endsOrder 2 (some .boolean) 1 := ⟨gi_V wm_X5_136 wi_X2_endsOrder ws_X2_endsOrder wz_X2 wc_X2_endsOrder, by decide +kernel⟩
theorem k_X5_143 : xLS RX5 143 yX5_at cX5_at 2 (some .int) 2 := ⟨gi_S wm_X5_143 wt_X5_at wz_X5 wc_X5_at, by decide +kernel⟩
theorem k_X5_153 : xLV RX5 153 RX0 yX0_bringBack cX0_bringBack 4 none 1 := ⟨gi_V wm_X5_153 wi_X0_bringBack ws_X0_bringBack wz_X0 wc_X0_bringBack, by decide +kernel⟩
theorem k_X5_156 : xLV RX5 156 RX4 yX4_keep cX4_keep 4 none 2 := ⟨gi_V wm_X5_156 wi_X4_keep ws_X4_keep wz_X4 wc_X4_keep, by decide +kernel⟩
theorem k_X5_160 : xLV RX5 160 RX4 yX4_holds cX4_holds 2 (some .boolean) 1 := ⟨gi_V wm_X5_160 wi_X4_holds ws_X4_holds wz_X4 wc_X4_holds, by decide +kernel⟩
theorem k_X5_163 : xLV RX5 163 RX4 yX4_bringBack cX4_bringBack 4 none 2 := ⟨gi_V wm_X5_163 wi_X4_bringBack ws_X4_bringBack wz_X4 wc_X4_bringBack, by decide +kernel⟩
theorem k_X0_24 : xLI RX0 24 yX1_init cX1_init 1 0 := ⟨⟨wc_X1_init, wz_X1, wm_X0_24, wi_X1_init, rfl⟩, by decide +kernel⟩
theorem k_X0_25 : xLSN RX0 25 yX5_memoryAt RX5 cX5_memoryAt 2 (some (.object "CaptureSegments$Memory")) 2 := ⟨⟨wc_X5_memoryAt, wz_X5, wn_X0_25, wt_X5_memoryAt⟩, by decide +kernel⟩
theorem k_X0_29 : xLV RX0 29 RX1 yX1_takeOver cX1_takeOver 2 none 1 := ⟨gi_V wm_X0_29 wi_X1_takeOver ws_X1_takeOver wz_X1 wc_X1_takeOver, by decide +kernel⟩
theorem k_X1_20 : xLIN RX1 20 yX3_init RX5 cX3_init 1 0 := ⟨⟨wc_X3_init, wz_X3, wn_X1_20, wi_X3_init, rfl⟩, by decide +kernel⟩
theorem k_X1_65 : xLSN RX1 65 yX5_copyRow RX5 cX5_copyRow 2 none 2 := ⟨⟨wc_X5_copyRow, wz_X5, wn_X1_65, wt_X5_copyRow⟩, by decide +kernel⟩
theorem k_X1_69 : xLV RX1 69 RX3 yX3_takeOver cX3_takeOver 2 none 1 := ⟨gi_V wm_X1_69 wi_X3_takeOver ws_X3_takeOver wz_X3 wc_X3_takeOver, by decide +kernel⟩
theorem k_X1_76 : xLSN RX1 76 yX5_at RX5 cX5_at 2 (some .int) 2 := ⟨⟨wc_X5_at, wz_X5, wn_X1_76, wt_X5_at⟩, by decide +kernel⟩
theorem k_X1_83 : xLV RX1 83 RX1 yX1_fits cX1_fits 3 (some .boolean) 2 := ⟨gi_V wm_X1_83 wi_X1_fits ws_X1_fits wz_X1 wc_X1_fits, by decide +kernel⟩
theorem k_X1_87 : xLV RX1 87 RX1 yX1_settingOf cX1_settingOf 2 (some .int) 1 := ⟨gi_V wm_X1_87 wi_X1_settingOf ws_X1_settingOf wz_X1 wc_X1_settingOf, by decide +kernel⟩
theorem k_X1_91 : xLSN RX1 91 yX5_writeAt RX5 cX5_writeAt 3 none 3 := ⟨⟨wc_X5_writeAt, wz_X5, wn_X1_91, wt_X5_writeAt⟩, by decide +kernel⟩
theorem k_X1_95 : xLV RX1 95 RX3 yX3_keepLatest cX3_keepLatest 3 none 1 := ⟨gi_V wm_X1_95 wi_X3_keepLatest ws_X3_keepLatest wz_X3 wc_X3_keepLatest, by decide +kernel⟩
theorem k_X1_99 : xLV RX1 99 RX1 yX1_takeSample cX1_takeSample 5 (some .boolean) 1 := ⟨gi_V wm_X1_99 wi_X1_takeSample ws_X1_takeSample wz_X1 wc_X1_takeSample, by decide +kernel⟩
theorem k_X1_103 : xLV RX1 103 RX1 yX1_completeSegment cX1_completeSegment 1 none 0 := ⟨gi_V wm_X1_103 wi_X1_completeSegment ws_X1_completeSegment wz_X1 wc_X1_completeSegment, by decide +kernel⟩
theorem k_X1_106 : xLV RX1 106 RX1 yX1_detect cX1_detect 4 (some .boolean) 1 := ⟨gi_V wm_X1_106 wi_X1_detect ws_X1_detect wz_X1 wc_X1_detect, by decide +kernel⟩
theorem k_X1_109 : xLV RX1 109 RX1 yX1_phase cX1_phase 1 (some .int) 0 := ⟨gi_V wm_X1_109 wi_X1_phase ws_X1_phase wz_X1 wc_X1_phase, by decide +kernel⟩
theorem k_X1_113 : xLV RX1 113 RX1 yX1_beginSegment cX1_beginSegment 1 none 0 := ⟨gi_V wm_X1_113 wi_X1_beginSegment ws_X1_beginSegment wz_X1 wc_X1_beginSegment, by decide +kernel⟩
theorem k_X1_116 : xLV RX1 116 RX1 yX1_detectorAfter cX1_detectorAfter 4 (some .int) 3 := ⟨gi_V wm_X1_116 wi_X1_detectorAfter ws_X1_detectorAfter wz_X1 wc_X1_detectorAfter, by decide +kernel⟩
theorem k_X1_120 : xLV RX1 120 RX3 yX3_append cX3_append 6 none 4 := ⟨gi_V wm_X1_120 wi_X3_append ws_X3_append wz_X3 wc_X3_append, by decide +kernel⟩
theorem k_X1_127 : xLV RX1 127 RX3 yX3_firstOf cX3_firstOf 2 (some .int) 1 := ⟨gi_V wm_X1_127 wi_X3_firstOf ws_X3_firstOf wz_X3 wc_X3_firstOf, by decide +kernel⟩
theorem k_X1_130 : xLV RX1 130 RX3 yX3_numberOf cX3_numberOf 3 (some .int) 2 := ⟨gi_V wm_X1_130 wi_X3_numberOf ws_X3_numberOf wz_X3 wc_X3_numberOf, by decide +kernel⟩
theorem k_X1_134 : xLV RX1 134 RX1 yX1_sampleAt cX1_sampleAt 2 (some .int) 1 := ⟨gi_V wm_X1_134 wi_X1_sampleAt ws_X1_sampleAt wz_X1 wc_X1_sampleAt, by decide +kernel⟩
theorem k_X1_145 : xLV RX1 145 RX3 yX3_behindOf cX3_behindOf 2 (some .int) 1 := ⟨gi_V wm_X1_145 wi_X3_behindOf ws_X3_behindOf wz_X3 wc_X3_behindOf, by decide +kernel⟩
theorem k_X2_46 : xLSN RX2 46 yX5_writeAt RX5 cX5_writeAt 3 none 3 := ⟨⟨wc_X5_writeAt, wz_X5, wn_X2_46, wt_X5_writeAt⟩, by decide +kernel⟩
theorem k_X2_50 : xLSN RX2 50 yX5_at RX5 cX5_at 2 (some .int) 2 := ⟨⟨wc_X5_at, wz_X5, wn_X2_50, wt_X5_at⟩, by decide +kernel⟩
theorem k_X2_54 : xLV RX2 54 RX2 yX2_readOrder cX2_readOrder 3 (some .boolean) 0 := ⟨gi_V wm_X2_54 wi_X2_readOrder ws_X2_readOrder wz_X2 wc_X2_readOrder, by decide +kernel⟩
theorem k_X2_58 : xLV RX2 58 RX2 yX2_code cX2_code 1 (some .int) 0 := ⟨gi_V wm_X2_58 wi_X2_code ws_X2_code wz_X2 wc_X2_code, by decide +kernel⟩
theorem k_X2_62 : xLV RX2 62 RX2 yX2_readKind cX2_readKind 2 (some .boolean) 0 := ⟨gi_V wm_X2_62 wi_X2_readKind ws_X2_readKind wz_X2 wc_X2_readKind, by decide +kernel⟩
theorem k_X2_65 : xLV RX2 65 RX2 yX2_readLevel cX2_readLevel 1 (some .boolean) 0 := ⟨gi_V wm_X2_65 wi_X2_readLevel ws_X2_readLevel wz_X2 wc_X2_readLevel, by decide +kernel⟩
theorem k_X2_68 : xLV RX2 68 RX2 yX2_addStep cX2_addStep 4 none 3 := ⟨gi_V wm_X2_68 wi_X2_addStep ws_X2_addStep wz_X2 wc_X2_addStep, by decide +kernel⟩
theorem k_X2_72 : xLV RX2 72 RX2 yX2_readSample cX2_readSample 3 (some .boolean) 0 := ⟨gi_V wm_X2_72 wi_X2_readSample ws_X2_readSample wz_X2 wc_X2_readSample, by decide +kernel⟩
theorem k_X2_75 : xLV RX2 75 RX2 yX2_readValue cX2_readValue 2 (some .boolean) 0 := ⟨gi_V wm_X2_75 wi_X2_readValue ws_X2_readValue wz_X2 wc_X2_readValue, by decide +kernel⟩
theorem k_X2_78 : xLV RX2 78 RX2 yX2_readNumber cX2_readNumber 3 (some .boolean) 0 := ⟨gi_V wm_X2_78 wi_X2_readNumber ws_X2_readNumber wz_X2 wc_X2_readNumber, by decide +kernel⟩
theorem k_X2_81 : xLS RX2 81 yX2_isDigit cX2_isDigit 1 (some .boolean) 1 := ⟨gi_S wm_X2_81 wt_X2_isDigit wz_X2 wc_X2_isDigit, by decide +kernel⟩
theorem k_X3_19 : xLSN RX3 19 yX5_at RX5 cX5_at 2 (some .int) 2 := ⟨⟨wc_X5_at, wz_X5, wn_X3_19, wt_X5_at⟩, by decide +kernel⟩
theorem k_X3_23 : xLV RX3 23 RX3 yX3_numberOf cX3_numberOf 3 (some .int) 2 := ⟨gi_V wm_X3_23 wi_X3_numberOf ws_X3_numberOf wz_X3 wc_X3_numberOf, by decide +kernel⟩
theorem k_X3_27 : xLSN RX3 27 yX5_writeAt RX5 cX5_writeAt 3 none 3 := ⟨⟨wc_X5_writeAt, wz_X5, wn_X3_27, wt_X5_writeAt⟩, by decide +kernel⟩
theorem k_X3_31 : xLV RX3 31 RX3 yX3_has cX3_has 2 (some .boolean) 1 := ⟨gi_V wm_X3_31 wi_X3_has ws_X3_has wz_X3 wc_X3_has, by decide +kernel⟩
theorem k_X3_35 : xLV RX3 35 RX3 yX3_removeAt cX3_removeAt 3 none 1 := ⟨gi_V wm_X3_35 wi_X3_removeAt ws_X3_removeAt wz_X3 wc_X3_removeAt, by decide +kernel⟩
theorem k_X3_39 : xLSN RX3 39 yX5_copyRow RX5 cX5_copyRow 2 none 2 := ⟨⟨wc_X5_copyRow, wz_X5, wn_X3_39, wt_X5_copyRow⟩, by decide +kernel⟩
theorem k_X4_21 : xLI RX4 21 yX1_init cX1_init 1 0 := ⟨⟨wc_X1_init, wz_X1, wm_X4_21, wi_X1_init, rfl⟩, by decide +kernel⟩
theorem k_X4_22 : xLSN RX4 22 yX5_memoryAt RX5 cX5_memoryAt 2 (some (.object "CaptureSegments$Memory")) 2 := ⟨⟨wc_X5_memoryAt, wz_X5, wn_X4_22, wt_X5_memoryAt⟩, by decide +kernel⟩
theorem k_X4_26 : xLV RX4 26 RX1 yX1_takeOver cX1_takeOver 2 none 1 := ⟨gi_V wm_X4_26 wi_X1_takeOver ws_X1_takeOver wz_X1 wc_X1_takeOver, by decide +kernel⟩
theorem k_L_9 : xLI RL 9 yX5_init cX5_init 1 0 := ⟨⟨wc_X5_init, wz_X5, wm_L_9, wi_X5_init, rfl⟩, by decide +kernel⟩
theorem k_L_12 : xLI RL 12 yX6_init cX6_init 1 0 := ⟨⟨wc_X6_init, wz_X6, wm_L_12, wi_X6_init, rfl⟩, by decide +kernel⟩
theorem k_L_13 : xLV RL 13 RX5 yX5_set cX5_set 4 (some .int) 2 := ⟨gi_V wm_L_13 wi_X5_set ws_X5_set wz_X5 wc_X5_set, by decide +kernel⟩
theorem k_L_17 : xLV RL 17 RX6 yX6_set cX6_set 4 (some .int) 2 := ⟨gi_V wm_L_17 wi_X6_set ws_X6_set wz_X6 wc_X6_set, by decide +kernel⟩
theorem k_L_18 : xLV RL 18 RX5 yX5_feed cX5_feed 4 (some .int) 2 := ⟨gi_V wm_L_18 wi_X5_feed ws_X5_feed wz_X5 wc_X5_feed, by decide +kernel⟩
theorem k_L_21 : xLV RL 21 RX6 yX6_feed cX6_feed 4 (some .int) 2 := ⟨gi_V wm_L_21 wi_X6_feed ws_X6_feed wz_X6 wc_X6_feed, by decide +kernel⟩
theorem k_L_22 : xLV RL 22 RX5 yX5_clear cX5_clear 1 (some .int) 0 := ⟨gi_V wm_L_22 wi_X5_clear ws_X5_clear wz_X5 wc_X5_clear, by decide +kernel⟩
theorem k_L_26 : xLV RL 26 RX6 yX6_clear cX6_clear 1 (some .int) 0 := ⟨gi_V wm_L_26 wi_X6_clear ws_X6_clear wz_X6 wc_X6_clear, by decide +kernel⟩
theorem k_L_27 : xLV RL 27 RX5 yX5_drop cX5_drop 2 (some .int) 1 := ⟨gi_V wm_L_27 wi_X5_drop ws_X5_drop wz_X5 wc_X5_drop, by decide +kernel⟩
theorem k_L_31 : xLV RL 31 RX6 yX6_drop cX6_drop 2 (some .int) 1 := ⟨gi_V wm_L_31 wi_X6_drop ws_X6_drop wz_X6 wc_X6_drop, by decide +kernel⟩
theorem k_L_32 : xLV RL 32 RX5 yX5_segment cX5_segment 3 (some .int) 2 := ⟨gi_V wm_L_32 wi_X5_segment ws_X5_segment wz_X5 wc_X5_segment, by decide +kernel⟩
theorem k_L_35 : xLV RL 35 RX6 yX6_segment cX6_segment 3 (some .int) 2 := ⟨gi_V wm_L_35 wi_X6_segment ws_X6_segment wz_X6 wc_X6_segment, by decide +kernel⟩
theorem k_L_36 : xLV RL 36 RX5 yX5_sampleOf cX5_sampleOf 3 (some .int) 2 := ⟨gi_V wm_L_36 wi_X5_sampleOf ws_X5_sampleOf wz_X5 wc_X5_sampleOf, by decide +kernel⟩
theorem k_L_39 : xLV RL 39 RX6 yX6_sampleOf cX6_sampleOf 3 (some .int) 2 := ⟨gi_V wm_L_39 wi_X6_sampleOf ws_X6_sampleOf wz_X6 wc_X6_sampleOf, by decide +kernel⟩
theorem k_L_40 : xLV RL 40 RX5 yX5_sample cX5_sample 2 (some .int) 1 := ⟨gi_V wm_L_40 wi_X5_sample ws_X5_sample wz_X5 wc_X5_sample, by decide +kernel⟩
theorem k_L_43 : xLV RL 43 RX6 yX6_sample cX6_sample 2 (some .int) 1 := ⟨gi_V wm_L_43 wi_X6_sample ws_X6_sample wz_X6 wc_X6_sample, by decide +kernel⟩
theorem k_L_44 : xLV RL 44 RX5 yX5_count cX5_count 2 (some .int) 1 := ⟨gi_V wm_L_44 wi_X5_count ws_X5_count wz_X5 wc_X5_count, by decide +kernel⟩
theorem k_L_47 : xLV RL 47 RX6 yX6_count cX6_count 2 (some .int) 1 := ⟨gi_V wm_L_47 wi_X6_count ws_X6_count wz_X6 wc_X6_count, by decide +kernel⟩
theorem k_L_48 : xLV RL 48 RX5 yX5_fires cX5_fires 2 (some .int) 1 := ⟨gi_V wm_L_48 wi_X5_fires ws_X5_fires wz_X5 wc_X5_fires, by decide +kernel⟩
theorem k_L_51 : xLV RL 51 RX6 yX6_fires cX6_fires 2 (some .int) 1 := ⟨gi_V wm_L_51 wi_X6_fires ws_X6_fires wz_X6 wc_X6_fires, by decide +kernel⟩
theorem k_L_52 : xLV RL 52 RX5 yX5_bestLevel cX5_bestLevel 7 (some .int) 1 := ⟨gi_V wm_L_52 wi_X5_bestLevel ws_X5_bestLevel wz_X5 wc_X5_bestLevel, by decide +kernel⟩
theorem k_L_55 : xLV RL 55 RX6 yX6_bestLevel cX6_bestLevel 6 (some .int) 1 := ⟨gi_V wm_L_55 wi_X6_bestLevel ws_X6_bestLevel wz_X6 wc_X6_bestLevel, by decide +kernel⟩
theorem k_L_56 : xLV RL 56 RX5 yX5_unlike cX5_unlike 3 (some .int) 2 := ⟨gi_V wm_L_56 wi_X5_unlike ws_X5_unlike wz_X5 wc_X5_unlike, by decide +kernel⟩
theorem k_L_59 : xLV RL 59 RX6 yX6_unlike cX6_unlike 3 (some .int) 2 := ⟨gi_V wm_L_59 wi_X6_unlike ws_X6_unlike wz_X6 wc_X6_unlike, by decide +kernel⟩
theorem k_L_60 : xLV RL 60 RX5 yX5_nearest cX5_nearest 6 (some .int) 1 := ⟨gi_V wm_L_60 wi_X5_nearest ws_X5_nearest wz_X5 wc_X5_nearest, by decide +kernel⟩
theorem k_L_63 : xLV RL 63 RX6 yX6_nearest cX6_nearest 7 (some .int) 1 := ⟨gi_V wm_L_63 wi_X6_nearest ws_X6_nearest wz_X6 wc_X6_nearest, by decide +kernel⟩
theorem k_L_66 : xLV RL 66 RX5 yX5_put cX5_put 4 (some .int) 1 := ⟨gi_V wm_L_66 wi_X5_put ws_X5_put wz_X5 wc_X5_put, by decide +kernel⟩
theorem k_L_70 : xLV RL 70 RX6 yX6_put cX6_put 8 (some .int) 1 := ⟨gi_V wm_L_70 wi_X6_put ws_X6_put wz_X6 wc_X6_put, by decide +kernel⟩
theorem k_L_71 : xLV RL 71 RX5 yX5_wipe cX5_wipe 2 (some .int) 0 := ⟨gi_V wm_L_71 wi_X5_wipe ws_X5_wipe wz_X5 wc_X5_wipe, by decide +kernel⟩
theorem k_L_74 : xLV RL 74 RX6 yX6_wipe cX6_wipe 2 (some .int) 0 := ⟨gi_V wm_L_74 wi_X6_wipe ws_X6_wipe wz_X6 wc_X6_wipe, by decide +kernel⟩
theorem k_L_75 : xLV RL 75 RX5 yX5_fault cX5_fault 1 (some .int) 0 := ⟨gi_V wm_L_75 wi_X5_fault ws_X5_fault wz_X5 wc_X5_fault, by decide +kernel⟩
theorem k_L_78 : xLV RL 78 RX6 yX6_fault cX6_fault 2 (some .int) 0 := ⟨gi_V wm_L_78 wi_X6_fault ws_X6_fault wz_X6 wc_X6_fault, by decide +kernel⟩
theorem k_L_79 : xLV RL 79 RX5 yX5_carryOut cX5_carryOut 4 (some .int) 0 := ⟨gi_V wm_L_79 wi_X5_carryOut ws_X5_carryOut wz_X5 wc_X5_carryOut, by decide +kernel⟩
theorem k_L_82 : xLV RL 82 RX6 yX6_carryOut cX6_carryOut 4 (some .int) 0 := ⟨gi_V wm_L_82 wi_X6_carryOut ws_X6_carryOut wz_X6 wc_X6_carryOut, by decide +kernel⟩
theorem k_L_83 : xLV RL 83 RX5 yX5_undo cX5_undo 1 (some .int) 0 := ⟨gi_V wm_L_83 wi_X5_undo ws_X5_undo wz_X5 wc_X5_undo, by decide +kernel⟩
theorem k_L_86 : xLV RL 86 RX6 yX6_undo cX6_undo 2 (some .int) 0 := ⟨gi_V wm_L_86 wi_X6_undo ws_X6_undo wz_X6 wc_X6_undo, by decide +kernel⟩
theorem k_L_87 : xLV RL 87 RX5 yX5_save cX5_save 2 (some .int) 1 := ⟨gi_V wm_L_87 wi_X5_save ws_X5_save wz_X5 wc_X5_save, by decide +kernel⟩
theorem k_L_90 : xLV RL 90 RX6 yX6_save cX6_save 3 (some .int) 1 := ⟨gi_V wm_L_90 wi_X6_save ws_X6_save wz_X6 wc_X6_save, by decide +kernel⟩
theorem k_L_91 : xLV RL 91 RX5 yX5_restore cX5_restore 2 (some .int) 1 := ⟨gi_V wm_L_91 wi_X5_restore ws_X5_restore wz_X5 wc_X5_restore, by decide +kernel⟩
theorem k_L_94 : xLV RL 94 RX6 yX6_restore cX6_restore 3 (some .int) 1 := ⟨gi_V wm_L_94 wi_X6_restore ws_X6_restore wz_X6 wc_X6_restore, by decide +kernel⟩
theorem k_X6_35 : xLV RX6 35 RX6 yX6_isFiring cX6_isFiring 6 (some .boolean) 4 := ⟨gi_V wm_X6_35 wi_X6_isFiring ws_X6_isFiring wz_X6 wc_X6_isFiring, by decide +kernel⟩
theorem k_X6_39 : xLV RX6 39 RX6 yX6_takesOut cX6_takesOut 3 none 1 := ⟨gi_V wm_X6_39 wi_X6_takesOut ws_X6_takesOut wz_X6 wc_X6_takesOut, by decide +kernel⟩
theorem k_X6_43 : xLV RX6 43 RX6 yX6_dropsOldest cX6_dropsOldest 2 none 1 := ⟨gi_V wm_X6_43 wi_X6_dropsOldest ws_X6_dropsOldest wz_X6 wc_X6_dropsOldest, by decide +kernel⟩
theorem k_X6_46 : xLV RX6 46 RX6 yX6_isLongEnough cX6_isLongEnough 1 (some .boolean) 0 := ⟨gi_V wm_X6_46 wi_X6_isLongEnough ws_X6_isLongEnough wz_X6 wc_X6_isLongEnough, by decide +kernel⟩
theorem k_X6_50 : xLV RX6 50 RX6 yX6_hasRoom cX6_hasRoom 1 (some .boolean) 0 := ⟨gi_V wm_X6_50 wi_X6_hasRoom ws_X6_hasRoom wz_X6 wc_X6_hasRoom, by decide +kernel⟩
theorem k_X6_53 : xLV RX6 53 RX6 yX6_captures cX6_captures 1 none 0 := ⟨gi_V wm_X6_53 wi_X6_captures ws_X6_captures wz_X6 wc_X6_captures, by decide +kernel⟩
theorem k_X6_56 : xLV RX6 56 RX6 yX6_lacking cX6_lacking 1 (some .int) 0 := ⟨gi_V wm_X6_56 wi_X6_lacking ws_X6_lacking wz_X6 wc_X6_lacking, by decide +kernel⟩
theorem k_X6_60 : xLV RX6 60 RX6 yX6_completes cX6_completes 2 none 0 := ⟨gi_V wm_X6_60 wi_X6_completes ws_X6_completes wz_X6 wc_X6_completes, by decide +kernel⟩
theorem k_X6_67 : xLS RX6 67 yX6_in cX6_in 6 (some .boolean) 3 := ⟨gi_S wm_X6_67 wt_X6_in wz_X6 wc_X6_in, by decide +kernel⟩
theorem k_X6_71 : xLS RX6 71 yX6_isSample cX6_isSample 1 (some .boolean) 1 := ⟨gi_S wm_X6_71 wt_X6_isSample wz_X6 wc_X6_isSample, by decide +kernel⟩
theorem k_X6_75 : xLV RX6 75 RX6 yX6_comes cX6_comes 3 none 1 := ⟨gi_V wm_X6_75 wi_X6_comes ws_X6_comes wz_X6 wc_X6_comes, by decide +kernel⟩
theorem k_X6_90 : xLS RX6 90 yX6_isSetting cX6_isSetting 2 (some .boolean) 2 := ⟨gi_S wm_X6_90 wt_X6_isSetting wz_X6 wc_X6_isSetting, by decide +kernel⟩
theorem k_X6_94 : xLV RX6 94 RX6 yX6_keep cX6_keep 2 none 0 := ⟨gi_V wm_X6_94 wi_X6_keep ws_X6_keep wz_X6 wc_X6_keep, by decide +kernel⟩
theorem k_X6_97 : xLV RX6 97 RX6 yX6_doSet cX6_doSet 9 (some .int) 2 := ⟨gi_V wm_X6_97 wi_X6_doSet ws_X6_doSet wz_X6 wc_X6_doSet, by decide +kernel⟩
theorem k_X6_101 : xLV RX6 101 RX6 yX6_changed cX6_changed 3 (some .int) 1 := ⟨gi_V wm_X6_101 wi_X6_changed ws_X6_changed wz_X6 wc_X6_changed, by decide +kernel⟩
theorem k_X6_105 : xLV RX6 105 RX6 yX6_doFeed cX6_doFeed 5 (some .int) 2 := ⟨gi_V wm_X6_105 wi_X6_doFeed ws_X6_doFeed wz_X6 wc_X6_doFeed, by decide +kernel⟩
theorem k_X6_108 : xLV RX6 108 RX6 yX6_doClear cX6_doClear 2 (some .int) 0 := ⟨gi_V wm_X6_108 wi_X6_doClear ws_X6_doClear wz_X6 wc_X6_doClear, by decide +kernel⟩
theorem k_X6_111 : xLV RX6 111 RX6 yX6_isSegment cX6_isSegment 2 (some .boolean) 1 := ⟨gi_V wm_X6_111 wi_X6_isSegment ws_X6_isSegment wz_X6 wc_X6_isSegment, by decide +kernel⟩
theorem k_X6_114 : xLV RX6 114 RX6 yX6_of cX6_of 3 (some .int) 2 := ⟨gi_V wm_X6_114 wi_X6_of ws_X6_of wz_X6 wc_X6_of, by decide +kernel⟩
theorem k_X6_117 : xLV RX6 117 RX6 yX6_numberOf cX6_numberOf 3 (some .int) 2 := ⟨gi_V wm_X6_117 wi_X6_numberOf ws_X6_numberOf wz_X6 wc_X6_numberOf, by decide +kernel⟩
theorem k_X6_120 : xLV RX6 120 RX6 yX6_sampleAt cX6_sampleAt 3 (some .int) 2 := ⟨gi_V wm_X6_120 wi_X6_sampleAt ws_X6_sampleAt wz_X6 wc_X6_sampleAt, by decide +kernel⟩
theorem k_X6_123 : xLV RX6 123 RX6 yX6_least cX6_least 5 (some .int) 1 := ⟨gi_V wm_X6_123 wi_X6_least ws_X6_least wz_X6 wc_X6_least, by decide +kernel⟩
theorem k_X6_126 : xLV RX6 126 RX6 yX6_greatest cX6_greatest 5 (some .int) 1 := ⟨gi_V wm_X6_126 wi_X6_greatest ws_X6_greatest wz_X6 wc_X6_greatest, by decide +kernel⟩
theorem k_X6_129 : xLV RX6 129 RX6 yX6_sumOf cX6_sumOf 4 (some .int) 1 := ⟨gi_V wm_X6_129 wi_X6_sumOf ws_X6_sumOf wz_X6 wc_X6_sumOf, by decide +kernel⟩
theorem k_X6_132 : xLV RX6 132 RX6 yX6_risesIn cX6_risesIn 4 (some .int) 1 := ⟨gi_V wm_X6_132 wi_X6_risesIn ws_X6_risesIn wz_X6 wc_X6_risesIn, by decide +kernel⟩
theorem k_X6_139 : xLV RX6 139 RX6 yX6_phase cX6_phase 1 (some .int) 0 := ⟨gi_V wm_X6_139 wi_X6_phase ws_X6_phase wz_X6 wc_X6_phase, by decide +kernel⟩
theorem k_X6_145 : xLV RX6 145 RX6 yX6_isLevel cX6_isLevel 2 (some .boolean) 1 := ⟨gi_V wm_X6_145 wi_X6_isLevel ws_X6_isLevel wz_X6 wc_X6_isLevel, by decide +kernel⟩
theorem k_X6_148 : xLV RX6 148 RX6 yX6_firings cX6_firings 5 (some .int) 1 := ⟨gi_V wm_X6_148 wi_X6_firings ws_X6_firings wz_X6 wc_X6_firings, by decide +kernel⟩
theorem k_X6_151 : xLV RX6 151 RX6 yX6_unlikeOf cX6_unlikeOf 10 (some .int) 2 := ⟨gi_V wm_X6_151 wi_X6_unlikeOf ws_X6_unlikeOf wz_X6 wc_X6_unlikeOf, by decide +kernel⟩
theorem k_X6_163 : xLV RX6 163 RX6 yX6_isHere cX6_isHere 3 (some .boolean) 2 := ⟨gi_V wm_X6_163 wi_X6_isHere ws_X6_isHere wz_X6 wc_X6_isHere, by decide +kernel⟩
theorem k_X6_169 : xLV RX6 169 RX6 yX6_takes cX6_takes 3 (some .boolean) 1 := ⟨gi_V wm_X6_169 wi_X6_takes ws_X6_takes wz_X6 wc_X6_takes, by decide +kernel⟩
theorem k_X6_172 : xLV RX6 172 RX6 yX6_readsNumber cX6_readsNumber 1 (some .boolean) 0 := ⟨gi_V wm_X6_172 wi_X6_readsNumber ws_X6_readsNumber wz_X6 wc_X6_readsNumber, by decide +kernel⟩
theorem k_X6_178 : xLV RX6 178 RX6 yX6_readsValue cX6_readsValue 3 (some .boolean) 0 := ⟨gi_V wm_X6_178 wi_X6_readsValue ws_X6_readsValue wz_X6 wc_X6_readsValue, by decide +kernel⟩
theorem k_X6_185 : xLV RX6 185 RX6 yX6_does cX6_does 2 none 1 := ⟨gi_V wm_X6_185 wi_X6_does ws_X6_does wz_X6 wc_X6_does, by decide +kernel⟩
theorem k_X6_188 : xLV RX6 188 RX6 yX6_readsSamples cX6_readsSamples 3 (some .boolean) 0 := ⟨gi_V wm_X6_188 wi_X6_readsSamples ws_X6_readsSamples wz_X6 wc_X6_readsSamples, by decide +kernel⟩
theorem k_X6_191 : xLV RX6 191 RX6 yX6_readsOrder cX6_readsOrder 1 (some .boolean) 0 := ⟨gi_V wm_X6_191 wi_X6_readsOrder ws_X6_readsOrder wz_X6 wc_X6_readsOrder, by decide +kernel⟩
theorem k_X6_194 : xLV RX6 194 RX6 yX6_fault cX6_fault 2 (some .int) 0 := ⟨gi_V wm_X6_194 wi_X6_fault ws_X6_fault wz_X6 wc_X6_fault, by decide +kernel⟩
end
section
/-! ===== the layout: the cells of the whole system, by the order in which they are made; refs never change ===== -/
abbrev GX : Type := (Nat → ClassId) × (Nat → Nat → Nat) × ClassId × ClassId × ClassId × (Nat → Nat) × Nat
abbrev HI : Type := Nat → Nat → Int32
def gD (g : GX) : va_G := (g.1, g.2.1)
def gI (g : GX) : ClassId := g.2.2.1
def gZ (g : GX) : ClassId := g.2.2.2.1
def gO (g : GX) : ClassId := g.2.2.2.2.1
def gR (g : GX) : Nat → Nat := g.2.2.2.2.2.1
def gS (g : GX) : Nat := g.2.2.2.2.2.2
def gT (g : GX) : List (ClassId × FieldType) := [(gI g, .int), (gZ g, .boolean), (gO g, .object RX1)]
def gA (g : GX) : Nat → Prop := fun q => gS g ≤ q
def gOk (g : GX) : Prop := (∀ a b : Nat, a < 64 → b < 64 → gR g a = gR g b → a = b) ∧ ∀ a : Nat, a < 64 → gS g ≤ gR g a
def upI (I : HI) (a k : Nat) (v : Int32) : HI := fun b => if b = a then upd (I a) k v else I b
def upR (I : HI) (a : Nat) (f : Nat → Int32) : HI := fun b => if b = a then f else I b
theorem upR_s {I : HI} {a : Nat} {f : Nat → Int32} : upR I a f a = f := if_pos rfl
theorem upR_n {I : HI} {a b : Nat} {f : Nat → Int32} (h : b ≠ a) : upR I a f b = I b := if_neg h
theorem upI_s {I : HI} {a k : Nat} {v : Int32} : upI I a k v a = upd (I a) k v := if_pos rfl
theorem upI_n {I : HI} {a b k : Nat} {v : Int32} (h : b ≠ a) : upI I a k v b = I b := if_neg h
theorem upI_R (I : HI) (a k : Nat) (v : Int32) : upI I a k v = upR I a (upd (I a) k v) := rfl
/-- kinds: 0 to 6 the classes of vwCl, 7 int rows, 8 boolean rows, 9 rows of Memory -/
def kdL : List Nat := [5, 1, 7, 7, 3, 7, 0, 9, 1, 7, 7, 3, 7, 1, 7, 7, 3, 7, 1, 7, 7, 3, 7, 1, 7, 7, 3, 7, 1, 7, 7, 3, 7, 1, 7, 7, 3, 7, 4, 9, 8, 1, 7, 7, 3, 7, 1, 7, 7, 3, 7, 2, 7, 7, 7, 7, 7, 6, 7, 7, 7, 7, 7, 7]
def lnL : List Nat := [0, 0, 10, 400, 0, 24, 0, 6, 0, 10, 400, 0, 24, 0, 10, 400, 0, 24, 0, 10, 400, 0, 24, 0, 10, 400, 0, 24, 0, 10, 400, 0, 24, 0, 10, 400, 0, 24, 0, 2, 2, 0, 10, 400, 0, 24, 0, 10, 400, 0, 24, 0, 80, 80, 80, 80, 80, 0, 447, 447, 2682, 894, 2, 80, 10, 10, 10]
def kd (a : Nat) : Nat := kdL.getD a 99
def ln (a : Nat) : Nat := lnL.getD a 0
def el (a j : Nat) : Nat := (if a = 7 then 8 else 41) + 5 * j
def fld (g : GX) (I : HI) (a : Nat) : Nat → List Value
  | 0 => [.ref (gR g (a + 1)), .int (I a 1), .int (I a 2)]
  | 1 => [.ref (gR g (a + 1)), .ref (gR g (a + 2)), .ref (gR g (a + 3)), .int (I a 3), .int (I a 4), .int (I a 5), .int (I a 6), .int (I a 7), .int (I a 8), .int (I a 9), .int (I a 10), .int (I a 11), .int (I a 12), .int (I a 13), .int (I a 14)]
  | 2 => [.ref (gR g (a + 1)), .int (I a 1), .ref (gR g (a + 2)), .ref (gR g (a + 3)), .ref (gR g (a + 4)), .ref (gR g (a + 5)), .int (I a 6), .int (I a 7), .int (I a 8)]
  | 3 => [.ref (gR g (a + 1)), .int (I a 1)]
  | 4 => [.ref (gR g (a + 1)), .ref (gR g (a + 2))]
  | 5 => [.ref (gR g (a + 1)), .ref (gR g (a + 6)), .ref (gR g (a + 38)), .ref (gR g (a + 51))]
  | _ => [.ref (gR g (a + 1)), .ref (gR g (a + 2)), .ref (gR g (a + 3)), .int (I a 3), .ref (gR g (a + 4)), .ref (gR g (a + 5)), .int (I a 6), .ref (gR g (a + 6)), .int (I a 8), .int (I a 9), .int (I a 10), .int (I a 11), .int (I a 12)]
def cel (g : GX) (I : HI) (a : Nat) : va_E :=
  if kd a < 7 then .inr (kd a, fld g I a (kd a)) else if kd a = 7 then .inl (gI g, ln a, .inl (I a)) else if kd a = 8 then .inl (gZ g, ln a, .inl (I a)) else .inl (gO g, ln a, .inr (.inr (.inr (.inr (fun j => some (gR g (el a j)))))))
def Wd (g : GX) (I : HI) : va_W := (List.range 64).map (fun a => (gR g a, cel g I a))
theorem Wd_at {g : GX} {I : HI} {a : Nat} (h : a < 64) : (Wd g I)[a]? = some (gR g a, cel g I a) := by simp [Wd, h]
theorem Wd_at' {g : GX} {I : HI} {k : Nat} {q : Nat × va_E} (h : (Wd g I)[k]? = some q) : k < 64 ∧ q = (gR g k, cel g I k) := by
  have hk : k < 64 := by
    have := (List.getElem?_eq_some_iff.mp h).1
    simpa [Wd] using this
  rw [Wd_at hk] at h
  exact ⟨hk, (Option.some.inj h).symm⟩
theorem cel_c {g : GX} {I : HI} {a ci : Nat} (h : kd a = ci) (h7 : ci < 7) : cel g I a = .inr (ci, fld g I a ci) := by
  subst h
  simp [cel, h7]
theorem cel_i {g : GX} {I : HI} {a : Nat} (h : kd a = 7) : cel g I a = .inl (gI g, ln a, .inl (I a)) := by simp [cel, h]
theorem cel_z {g : GX} {I : HI} {a : Nat} (h : kd a = 8) : cel g I a = .inl (gZ g, ln a, .inl (I a)) := by simp [cel, h]
theorem cel_o {g : GX} {I : HI} {a : Nat} (h : kd a = 9) : cel g I a = .inl (gO g, ln a, .inr (.inr (.inr (.inr (fun j => some (gR g (el a j))))))) := by simp [cel, h]
theorem fld_row {g : GX} {I J : HI} {a : Nat} (h : I a = J a) (ci : Nat) : fld g I a ci = fld g J a ci := by
  match ci with
  | 0 => simp [fld, h]
  | 1 => simp [fld, h]
  | 2 => simp [fld, h]
  | 3 => simp [fld, h]
  | 4 => simp [fld]
  | 5 => simp [fld]
  | n + 6 => simp [fld, h]
theorem cel_row {g : GX} {I J : HI} {a : Nat} (h : I a = J a) : cel g I a = cel g J a := by
  unfold cel
  rw [fld_row h, h]
theorem Wd_set {g : GX} {I J : HI} {a : Nat} {e : va_E} (ha : a < 64) (h1 : cel g J a = e) (h2 : ∀ b : Nat, b ≠ a → J b = I b) : (Wd g I).set a (gR g a, e) = Wd g J := by
  apply List.ext_getElem?
  intro k
  rw [List.getElem?_set]
  by_cases hk : a = k
  · subst hk
    rw [show (Wd g J)[a]? = _ from Wd_at ha, h1]
    simp [Wd, ha]
  · rw [if_neg hk]
    by_cases h64 : k < 64
    · rw [Wd_at h64, Wd_at h64, cel_row (h2 k (fun e => hk e.symm))]
    · rw [List.getElem?_eq_none (by simp [Wd]; omega), List.getElem?_eq_none (by simp [Wd]; omega)]
theorem Wd_D {g : GX} (hg : gOk g) (I : HI) : va_D (gA g) (Wd g I) := by
  refine ⟨fun i j p q hi hj e => ?_, fun k q hk => ?_⟩
  · obtain ⟨h1, rfl⟩ := Wd_at' hi
    obtain ⟨h2, rfl⟩ := Wd_at' hj
    exact hg.1 i j h1 h2 e
  · obtain ⟨h1, rfl⟩ := Wd_at' hk
    exact hg.2 k h1
/-- the places of a class that hold numbers -/
def inF : Nat → Nat → Bool
  | 0, k => k == 1 || k == 2
  | 1, k => decide (3 ≤ k) && decide (k < 15)
  | 2, k => k == 1 || (decide (6 ≤ k) && decide (k < 9))
  | 3, k => k == 1
  | 6, k => k == 3 || k == 6 || (decide (8 ≤ k) && decide (k < 13))
  | _, _ => false
theorem lt15 {P : Nat → Prop} (h : P 0 ∧ P 1 ∧ P 2 ∧ P 3 ∧ P 4 ∧ P 5 ∧ P 6 ∧ P 7 ∧ P 8 ∧ P 9 ∧ P 10 ∧ P 11 ∧ P 12 ∧ P 13 ∧ P 14) : ∀ k, k < 15 → P k := by
  intro k hk
  obtain ⟨h0, h1, h2, h3, h4, h5, h6, h7, h8, h9, h10, h11, h12, h13, h14⟩ := h
  match k, hk with
  | 0, _ => exact h0
  | 1, _ => exact h1
  | 2, _ => exact h2
  | 3, _ => exact h3
  | 4, _ => exact h4
  | 5, _ => exact h5
  | 6, _ => exact h6
  | 7, _ => exact h7
  | 8, _ => exact h8
  | 9, _ => exact h9
  | 10, _ => exact h10
  | 11, _ => exact h11
  | 12, _ => exact h12
  | 13, _ => exact h13
  | 14, _ => exact h14
  | k + 15, h => exact absurd h (by omega)
theorem inF_lt : ∀ ci k : Nat, inF ci k = true → ci < 7 ∧ k < 15 := by
  intro ci k h
  match ci, h with
  | 0, h => simp [inF] at h; omega
  | 1, h => simp [inF] at h; omega
  | 2, h => simp [inF] at h; omega
  | 3, h => simp [inF] at h; omega
  | 4, h => simp [inF] at h
  | 5, h => simp [inF] at h
  | 6, h => simp [inF] at h; omega
  | n + 7, h => simp [inF] at h
theorem fld_up {g : GX} {I : HI} {a ci k : Nat} (h : inF ci k = true) (v : Int32) : fld g (upI I a k v) a ci = (fld g I a ci).set k (.int v) := by
  obtain ⟨h7, h15⟩ := inF_lt ci k h
  rcases (show ci = 0 ∨ ci = 1 ∨ ci = 2 ∨ ci = 3 ∨ ci = 4 ∨ ci = 5 ∨ ci = 6 by omega) with rfl | rfl | rfl | rfl | rfl | rfl | rfl <;>
    (revert h; refine lt15 (P := fun k => inF _ k = true → fld g (upI I a k v) a _ = (fld g I a _).set k (.int v)) ?_ k h15; refine ⟨?_, ?_, ?_, ?_, ?_, ?_, ?_, ?_, ?_, ?_, ?_, ?_, ?_, ?_, ?_⟩ <;> intro h <;> first | (exact absurd h (by decide)) | simp [fld, upI, upd])
theorem fld_get {g : GX} {I : HI} {a ci k : Nat} (h : inF ci k = true) : (fld g I a ci)[k]? = some (.int (I a k)) := by
  obtain ⟨h7, h15⟩ := inF_lt ci k h
  rcases (show ci = 0 ∨ ci = 1 ∨ ci = 2 ∨ ci = 3 ∨ ci = 4 ∨ ci = 5 ∨ ci = 6 by omega) with rfl | rfl | rfl | rfl | rfl | rfl | rfl <;>
    (revert h; refine lt15 (P := fun k => inF _ k = true → (fld g I a _)[k]? = some (.int (I a k))) ?_ k h15; refine ⟨?_, ?_, ?_, ?_, ?_, ?_, ?_, ?_, ?_, ?_, ?_, ?_, ?_, ?_, ?_⟩ <;> intro h <;> first | (exact absurd h (by decide)) | rfl)
/-! ===== what stands at every place of a method: the tables, the classes, the tables of numbers that nobody writes ===== -/
def cS (a j : Nat) : Int32 := if a = 64 then [0, 0, 2, -20, 20, 8, 2, 4, 4, 0].getD j 0 else if a = 65 then [0, -100, 0, -100, -100, 1, 0, 0, 1, 0].getD j 0 else [2, 100, 50, 100, 100, 32, 31, 60, 6, 1].getD j 0
def stC (I : HI) : Prop := ∀ a : Nat, 64 ≤ a → a < 67 → I a = cS a
theorem stC_up {I : HI} {a : Nat} {f : Nat → Int32} (h : stC I) (ha : a < 64) : stC (upR I a f) := fun b h1 h2 => (upR_n (by omega)).trans (h b h1 h2)
def xK (g : GX) (U : State) : Prop := va_K (gD g) vwCl (gT g) U
def xN (U : State) : Prop := ∀ w ∈ NL, va_Nw w U
def xT (g : GX) (U : State) (H : Heap) : Prop := (va_Z RX5 "FIRST_OF_SETTING" "[I" (.ref (gR g 64)) (gA g) U H ∧ va_Z RX5 "LEAST_OF_SETTING" "[I" (.ref (gR g 65)) (gA g) U H ∧ va_Z RX5 "GREATEST_OF_SETTING" "[I" (.ref (gR g 66)) (gA g) U H) ∧ ∀ a : Nat, 64 ≤ a → a < 67 → va_T .int (gR g a) 10 (fun j => .int (cS a j)) (gA g) U H
theorem xK.moved {g : GX} {u U : State} (h : xK g u) (hvm : u.vm.Alike U.vm) : xK g U := va_K.moved hvm h
theorem xT.moved {g : GX} {u U : State} {H : Heap} (h : xT g u H) (hvm : u.vm.Alike U.vm) : xT g U H := ⟨⟨va_Z.moved hvm h.1.1, va_Z.moved hvm h.1.2.1, va_Z.moved hvm h.1.2.2⟩, fun a h1 h2 => va_T.moved hvm (h.2 a h1 h2)⟩
theorem xT.kept {g : GX} {U : State} {H H1 : Heap} (h : xT g U H) (hq : ∀ a : Nat, a < H.size → ¬ gA g a → H1[a]? = H[a]?) : xT g U H1 := ⟨⟨h.1.1.kept hq, h.1.2.1.kept hq, h.1.2.2.kept hq⟩, fun a h1 h2 => (h.2 a h1 h2).kept hq⟩
theorem xN_warm {s U : State} (h : xN s) (hW : s.WarmedH U.vm) : xN U := by
  intro w hw
  have h1 := h w hw
  have hn := (List.mem_filter.mp hw).2
  match w, hn, h1 with
  | .fieldLinkNest _ _ _ _ _ _, _, h1 => exact va_Nw.warmF hW h1
  | .methodLinkNest _ _ _ _, _, h1 => exact va_Nw.warmM hW h1
theorem xN_same {s U : State} (h : xN s) (hvm : s.vm = U.vm) : xN U := by
  intro w hw
  have h1 := h w hw
  have hn := (List.mem_filter.mp hw).2
  match w, hn, h1 with
  | .fieldLinkNest _ _ _ _ _ _, _, h1 => exact va_Nw.same rfl hvm h1
  | .methodLinkNest _ _ _ _, _, h1 => exact va_Nw.same rfl hvm h1
def xW (g : GX) (I : HI) (U : State) : Prop := va_P (gD g) vwCl (Wd g I) U.heap ∧ xK g U ∧ xN U ∧ xT g U U.heap ∧ gS g ≤ U.heap.size ∧ stC I
def xP (g : GX) (av : List Value) (I : HI) : Array Value → State → Prop := va_Pc av (xW g I)
theorem xP_blind {g : GX} {av : List Value} {I : HI} : FrameBlind (xP g av I) := fun a U f mk q => by
  obtain ⟨q0, q1, q2, q3, q4, q5, q6⟩ := q
  exact ⟨q0, q1, q2.moved (Vm.Alike.refl U.vm), xN_same q3 rfl, q4.moved (Vm.Alike.refl U.vm), q5, q6⟩
def xB (g : GX) (I1 : HI) (u : HI) (t : State) : Prop := u = I1 ∧ va_P (gD g) vwCl (Wd g u) t.heap ∧ stC u
def xQi (g : GX) (r : Int32) (I1 : HI) : Array Value → State → Outcome → State → Prop := va_Qi (fun r1 (_ : HI) => r1 = r) (xB g I1) (gA g)
def xQv (g : GX) (I1 : HI) : Array Value → State → Outcome → State → Prop := va_Qv (fun _ : HI => True) (xB g I1) (gA g)
def xQr (g : GX) (a : Nat) (I1 : HI) : Array Value → State → Outcome → State → Prop := va_Qr (fun _ : HI => True) (fun u b t => b = gR g a ∧ xB g I1 u t) (gA g)
def XC (g : GX) (p : Program) (s : State) (m : MethodId) (args : Array Value) (c : Code) (cc : ByteArray) (nL : Nat) (own : String) : Prop := CallFix p m c cc nL s args WL own ∧ xK g s ∧ xN s ∧ xT g s s.heap ∧ gS g ≤ s.heap.size ∧ gOk g
def XD (g : GX) (I : HI) (s : State) (H : Heap) (locs : List Loc) : Prop := va_P (gD g) vwCl (Wd g I) H ∧ va_S (gA g) s.heap H locs ∧ stC I
theorem ite_t {c : Prop} [Decidable c] {α : Type} {a b x : α} (h : c) (e : (if c then a else b) = x) : a = x := by rw [if_pos h] at e; exact e
theorem ite_f {c : Prop} [Decidable c] {α : Type} {a b x : α} (h : ¬ c) (e : (if c then a else b) = x) : b = x := by rw [if_neg h] at e; exact e
theorem oob_t {c : Prop} [Decidable c] {α : Type} {b : Option α} {x : α} (e : (if c then none else b) = some x) : ¬ c ∧ b = some x := by
  by_cases h : c
  · rw [if_pos h] at e; cases e
  · rw [if_neg h] at e; exact ⟨h, e⟩
theorem bnd_t {α β : Type} {o : Option α} {k : α → Option β} {x : β} (e : o.bind k = some x) : ∃ q, o = some q ∧ k q = some x := by
  cases o with
  | none => cases e
  | some q => exact ⟨q, rfl, e⟩
theorem sm_t {x y : Int32 × HI} (e : some x = some y) : x.1 = y.1 ∧ x.2 = y.2 := by cases e; exact ⟨rfl, rfl⟩
section XR
variable {g : GX} {I I1 : HI} {p : Program} {l : Launch} {e : Env} {R : Room} {s : State} {m : MethodId} {args : Array Value} {below : List Frame} {meth : Method} {c : Code} {H : Heap} {locs : List Loc} {cells slots : Nat} {Q : State → Prop}
variable {cc : ByteArray} {nL : Nat} {own : String} {pc : Nat} {ls : Array Slot} {rest : List Value}
theorem XC.hx (X : XC g p s m args c cc nL own) : p.tables.exec = Jvm.exec := X.1.1
theorem XC.hb (X : XC g p s m args c cc nL own) : c.code = cc := X.1.2.1
theorem XC.w (X : XC g p s m args c cc nL own) {w : Cond} (h : w ∈ WL) : w.before args s = true := X.1.2.2.2.2 w h
theorem XC.hg (X : XC g p s m args c cc nL own) : gOk g := X.2.2.2.2.2
theorem x_met {y : MethodName} {maxL : Nat} {ret : Option FieldType} {rm : Room} {av : List Value} {Qc : Array Value → State → Outcome → State → Prop} (hy : plainName y.cls = true) (hg : gOk g) (hlen : (lg_sl av).length ≤ maxL)
    (body : ∀ (p : Program) (e : Env) (s : State) (m : MethodId) (args : Array Value) (below : List Frame) (meth : Method) (c : Code), XC g p s m args c cc maxL y.cls → meth.sig.returnType = ret → meth.locks = false → XD g I s s.heap [] → ∀ ls : Array Slot, lv_has ls maxL (lv_args 0 av) → W p l e rm s m args below meth c s.heap [] 0 0 (MQ below Qc args s 0 0 (gA g)) (F0 m 0 ls [])) :
    Met l y (Cond.code y cc maxL ret :: WL) rm (xP g av I) Qc 0 0 (gA g) := by
  refine Met.ofW (cc := cc) (maxL := maxL) (ret := ret) hy rfl ?_
  intro p e s m args below meth c s₁ B hml hv
  obtain ⟨rfl, hP, hK, hN, hT, hs, hC⟩ := hv
  have hts := atoms_spec (ws := Cond.code y cc maxL ret :: WL) B.pre
  rw [lg_entry_eq]
  exact body p e s m _ below meth c ⟨⟨B.exec, B.bytes, hml, findClass_of_methodNamed B.named, fun w h => hts w (List.mem_cons_of_mem _ h)⟩, hK, hN, hT, hs, hg⟩ B.returns B.notSynchronized ⟨hP, va_S.rf, hC⟩ _ (lv_entry av hlen)
theorem XD.pre (X : XC g p s m args c cc nL own) (Y : XD g I s H locs) {av : List Value} : ∀ U : State, U.heap = H → s.WarmedH U.vm → xP g av I av.toArray U := fun U hU hW => ⟨rfl, by rw [hU]; exact Y.1, X.2.1.moved hW.alike, xN_warm X.2.2.1 hW, by
    rw [hU]
    exact (X.2.2.2.1.kept fun a h1 h2 => Y.2.1.2.1 a h1 h2).moved hW.alike, by rw [hU]; exact Nat.le_trans X.2.2.2.2.1 Y.2.1.1, Y.2.2⟩
theorem XD.upd (Y : XD g I s H locs) {a : Nat} {f : Nat → Int32} (ha : a < 64) {ws : va_W} {H1 : Heap} {locs1 : List Loc} (hw : ws = Wd g (upR I a f)) (hP : va_P (gD g) vwCl ws H1) (hS : va_S (gA g) s.heap H1 locs1) : XD g (upR I a f) s H1 locs1 := ⟨by rw [← hw]; exact hP, hS, stC_up Y.2.2 ha⟩
/-! fields -/
abbrev xCl (ci : Nat) (C : String) (T : u_T) (N : Nat) (ty : Nat → FieldType) : Prop := vwCl[ci]? = some (C, T, N) ∧ (∀ w ∈ u_ws C T N, w ∈ WL) ∧ (∀ k, k < N → parseFieldDescriptor (T k).2.2.1 = some (ty k)) ∧ (∀ a, a < N → ∀ b, b < N → a ≠ b → (T a).2.1 ≠ (T b).2.1) ∧ ci < 7 ∧ N ≤ 15
theorem x_get {C : String} {T : u_T} {N ci a idx : Nat} {ty : Nat → FieldType} {v : Value} (X : XC g p s m args c cc nL own) (Y : XD g I s H locs) (hcl : xCl ci C T N ty) (hk : kd a = ci) (ha : a < 64) (k : Nat) (hkN : k < N) (hw : Cond.fieldLink own idx (T k).1 (T k).2.1 (T k).2.2.1 ∈ WL) (hv : (fld g I a ci)[k]? = some v) (hdg : decode cc pc = .ok (.getfield idx, 3))
    (kk : W p l e R s m args below meth c H locs cells slots Q (F0 m (pc + 3) ls (v :: rest))) : W p l e R s m args below meth c H locs cells slots Q (F0 m pc ls (.ref (gR g a) :: rest)) :=
  va_get (D := gD g) X.hx X.hb X.1.2.2.2.2 hcl.2.1 X.1.2.2.2.1 X.2.1 Y.1 a (by rw [Wd_at ha, cel_c hk hcl.2.2.2.2.1]) hcl.1 k hkN (X.w hw) (fun _ h => h) hv hdg kk
theorem x_getN {C : String} {T : u_T} {N ci a idx : Nat} {ty : Nat → FieldType} {v : Value} {host : String} (X : XC g p s m args c cc nL own) (Y : XD g I s H locs) (hcl : xCl ci C T N ty) (hk : kd a = ci) (ha : a < 64) (k : Nat) (hkN : k < N) (hw : Cond.fieldLinkNest own idx (T k).1 (T k).2.1 (T k).2.2.1 host ∈ NL) (hv : (fld g I a ci)[k]? = some v) (hdg : decode cc pc = .ok (.getfield idx, 3))
    (kk : W p l e R s m args below meth c H locs cells slots Q (F0 m (pc + 3) ls (v :: rest))) : W p l e R s m args below meth c H locs cells slots Q (F0 m pc ls (.ref (gR g a) :: rest)) :=
  va_getN (D := gD g) X.hx X.hb X.1.2.2.2.2 hcl.2.1 X.1.2.2.2.1 X.2.1 Y.1 a (by rw [Wd_at ha, cel_c hk hcl.2.2.2.2.1]) hcl.1 k hkN (va_Nw.use rfl (X.2.2.1 _ hw)) (fun _ h => h) hv hdg kk
theorem fld_len {ci : Nat} {C : String} {T : u_T} {N a k : Nat} {ty : Nat → FieldType} (h : xCl ci C T N ty) (hin : inF ci k = true) : k < (fld g I a ci).length := by
  have := fld_get (g := g) (I := I) (a := a) hin
  exact (List.getElem?_eq_some_iff.mp this).1
theorem x_put {C : String} {T : u_T} {N ci a idx : Nat} {ty : Nat → FieldType} {v : Int32} (X : XC g p s m args c cc nL own) (Y : XD g I s H locs) (hcl : xCl ci C T N ty) (hk : kd a = ci) (ha : a < 64) (k : Nat) (hkN : k < N) (hin : inF ci k = true) (hw : Cond.fieldLink own idx (T k).1 (T k).2.1 (T k).2.2.1 ∈ WL) (hfin : (T k).2.2.2 = false) (hn : narrow (ty k) (.int v) = .int v) (hfit : fits (ty k) (.int v) = true) (hdg : decode cc pc = .ok (.putfield idx, 3))
    (kk : ∀ (H1 : Heap) (locs1 : List Loc), XD g (upI I a k v) s H1 locs1 → W p l e R s m args below meth c H1 locs1 cells slots Q (F0 m (pc + 3) ls rest)) : W p l e R s m args below meth c H locs cells slots Q (F0 m pc ls (.int v :: .ref (gR g a) :: rest)) :=
  va_put (D := gD g) X.hx X.hb X.1.2.2.2.2 hcl.2.1 ty hcl.2.2.1 hcl.2.2.2.1 X.1.2.2.2.1 X.2.1 Y.1 (Wd_D X.hg I) Y.2.1 a (by rw [Wd_at ha, cel_c hk hcl.2.2.2.2.1]) hcl.1 k hkN (X.w hw) (fun _ h => h) hfin (hcl.2.2.1 k hkN) hn hfit (fld_len hcl hin) hdg
    (fun H1 locs1 hP hD hS => kk H1 locs1 (Y.upd ha (Wd_set ha (by rw [cel_c hk hcl.2.2.2.2.1, ← upI_R, fld_up hin]) (fun b hb => upR_n hb)) hP hS))
theorem x_putN {C : String} {T : u_T} {N ci a idx : Nat} {ty : Nat → FieldType} {v : Int32} {host : String} (X : XC g p s m args c cc nL own) (Y : XD g I s H locs) (hcl : xCl ci C T N ty) (hk : kd a = ci) (ha : a < 64) (k : Nat) (hkN : k < N) (hin : inF ci k = true) (hw : Cond.fieldLinkNest own idx (T k).1 (T k).2.1 (T k).2.2.1 host ∈ NL) (hfin : (T k).2.2.2 = false) (hn : narrow (ty k) (.int v) = .int v) (hfit : fits (ty k) (.int v) = true) (hdg : decode cc pc = .ok (.putfield idx, 3))
    (kk : ∀ (H1 : Heap) (locs1 : List Loc), XD g (upI I a k v) s H1 locs1 → W p l e R s m args below meth c H1 locs1 cells slots Q (F0 m (pc + 3) ls rest)) : W p l e R s m args below meth c H locs cells slots Q (F0 m pc ls (.int v :: .ref (gR g a) :: rest)) :=
  va_putN (D := gD g) X.hx X.hb X.1.2.2.2.2 hcl.2.1 ty hcl.2.2.1 hcl.2.2.2.1 X.1.2.2.2.1 X.2.1 Y.1 (Wd_D X.hg I) Y.2.1 a (by rw [Wd_at ha, cel_c hk hcl.2.2.2.2.1]) hcl.1 k hkN (va_Nw.use rfl (X.2.2.1 _ hw)) (fun _ h => h) hfin (hcl.2.2.1 k hkN) hn hfit (fld_len hcl hin) hdg
    (fun H1 locs1 hP hD hS => kk H1 locs1 (Y.upd ha (Wd_set ha (by rw [cel_c hk hcl.2.2.2.2.1, ← upI_R, fld_up hin]) (fun b hb => upR_n hb)) hP hS))
/-! rows -/
theorem x_ildD {a : Nat} {i : Int32} (X : XC g p s m args c cc nL own) (Y : XD g I s H locs) (hk : kd a = 7) (ha : a < 64) (hin : vp_in i (ln a)) (hdg : decode cc pc = .ok (.iaload, 1))
    (kk : W p l e R s m args below meth c H locs cells slots Q (F0 m (pc + 1) ls (.int (I a i.toNatClampNeg) :: rest))) : W p l e R s m args below meth c H locs cells slots Q (F0 m pc ls (.int i :: .ref (gR g a) :: rest)) :=
  va_iald (D := gD g) X.hx X.hb X.2.1 Y.1 a 0 (by rw [Wd_at ha, cel_i hk]) rfl hin hdg kk
theorem x_ildS {a : Nat} {i : Int32} (X : XC g p s m args c cc nL own) (Y : XD g I s H locs) (h1 : 64 ≤ a) (h2 : a < 67) (hin : vp_in i 10) (hdg : decode cc pc = .ok (.iaload, 1))
    (kk : W p l e R s m args below meth c H locs cells slots Q (F0 m (pc + 1) ls (.int (I a i.toNatClampNeg) :: rest))) : W p l e R s m args below meth c H locs cells slots Q (F0 m pc ls (.int i :: .ref (gR g a) :: rest)) :=
  va_ti X.hx X.hb (X.2.2.2.1.2 a h1 h2) Y.2.1 hin (v := .int (I a i.toNatClampNeg)) (by rw [Y.2.2 a h1 h2]) hdg kk
def isI (a : Nat) : Bool := (kd a == 7 && decide (a < 64)) || (decide (64 ≤ a) && decide (a < 67))
def isD (a : Nat) : Bool := kd a == 7 && decide (a < 64)
theorem isI_s {a : Nat} (h : isI a = true) : (kd a = 7 ∧ a < 64) ∨ (64 ≤ a ∧ a < 67 ∧ ln a = 10) := by
  simp only [isI, Bool.or_eq_true, Bool.and_eq_true, beq_iff_eq, decide_eq_true_eq] at h
  rcases h with h | h
  · exact Or.inl h
  · refine Or.inr ⟨h.1, h.2, ?_⟩
    rcases (show a = 64 ∨ a = 65 ∨ a = 66 by omega) with rfl | rfl | rfl <;> rfl
theorem isD_s {a : Nat} (h : isD a = true) : kd a = 7 ∧ a < 64 := by
  simpa only [isD, Bool.and_eq_true, beq_iff_eq, decide_eq_true_eq] using h
theorem x_iald {a : Nat} {i : Int32} (X : XC g p s m args c cc nL own) (Y : XD g I s H locs) (h : isI a = true) (hin : ¬ (i < 0 ∨ ln a ≤ i.toNatClampNeg)) (hdg : decode cc pc = .ok (.iaload, 1))
    (kk : W p l e R s m args below meth c H locs cells slots Q (F0 m (pc + 1) ls (.int (I a i.toNatClampNeg) :: rest))) : W p l e R s m args below meth c H locs cells slots Q (F0 m pc ls (.int i :: .ref (gR g a) :: rest)) := by
  rcases isI_s h with ⟨h1, h2⟩ | ⟨h1, h2, h3⟩
  · exact x_ildD X Y h1 h2 hin hdg kk
  · exact x_ildS X Y h1 h2 (by rw [← h3]; exact hin) hdg kk
theorem x_ialdL {a k : Nat} {i : Int32} (X : XC g p s m args c cc nL own) (Y : XD g I s H locs) (hk : kd a = 7) (ha : a < 64) (hi : i.toNatClampNeg = k) (hin : vp_in i (ln a)) (hdg : decode cc pc = .ok (.iaload, 1))
    (kk : W p l e R s m args below meth c H locs cells slots Q (F0 m (pc + 1) ls (.int (I a k) :: rest))) : W p l e R s m args below meth c H locs cells slots Q (F0 m pc ls (.int i :: .ref (gR g a) :: rest)) :=
  x_ildD X Y hk ha hin hdg (by rw [hi]; exact kk)
theorem x_iast {a : Nat} {i x : Int32} (X : XC g p s m args c cc nL own) (Y : XD g I s H locs) (h : isD a = true) (hin : ¬ (i < 0 ∨ ln a ≤ i.toNatClampNeg)) (hdg : decode cc pc = .ok (.iastore, 1))
    (kk : ∀ (H1 : Heap) (locs1 : List Loc), XD g (upI I a i.toNatClampNeg x) s H1 locs1 → W p l e R s m args below meth c H1 locs1 cells slots Q (F0 m (pc + 1) ls rest)) : W p l e R s m args below meth c H locs cells slots Q (F0 m pc ls (.int x :: .int i :: .ref (gR g a) :: rest)) := by
  obtain ⟨hk, ha⟩ := isD_s h
  exact va_iast (D := gD g) X.hx X.hb X.2.1 Y.1 (Wd_D X.hg I) Y.2.1 a 0 (by rw [Wd_at ha, cel_i hk]) rfl hin hdg
    (fun H1 locs1 hP hD hS => kk H1 locs1 (Y.upd ha (Wd_set ha (by rw [cel_i hk, upR_s]) (fun b hb => upR_n hb)) hP hS))
theorem x_iastL {a k : Nat} {i x : Int32} (X : XC g p s m args c cc nL own) (Y : XD g I s H locs) (h : isD a = true) (hi : i.toNatClampNeg = k) (hin : vp_in i (ln a)) (hdg : decode cc pc = .ok (.iastore, 1))
    (kk : ∀ (H1 : Heap) (locs1 : List Loc), XD g (upI I a k x) s H1 locs1 → W p l e R s m args below meth c H1 locs1 cells slots Q (F0 m (pc + 1) ls rest)) : W p l e R s m args below meth c H locs cells slots Q (F0 m pc ls (.int x :: .int i :: .ref (gR g a) :: rest)) :=
  x_iast X Y h hin hdg (by rw [hi]; exact kk)
theorem x_zald {a : Nat} {i : Int32} (X : XC g p s m args c cc nL own) (Y : XD g I s H locs) (hk : kd a = 8) (ha : a < 64) (hin : ¬ (i < 0 ∨ ln a ≤ i.toNatClampNeg)) (hdg : decode cc pc = .ok (.baload, 1))
    (kk : W p l e R s m args below meth c H locs cells slots Q (F0 m (pc + 1) ls (.int (I a i.toNatClampNeg) :: rest))) : W p l e R s m args below meth c H locs cells slots Q (F0 m pc ls (.int i :: .ref (gR g a) :: rest)) :=
  va_zald (D := gD g) X.hx X.hb X.2.1 Y.1 a 1 (by rw [Wd_at ha, cel_z hk]) rfl hin hdg kk
theorem x_zast {a : Nat} {i x : Int32} (X : XC g p s m args c cc nL own) (Y : XD g I s H locs) (hk : kd a = 8) (ha : a < 64) (hx : vp_nar .boolean x = x) (hin : ¬ (i < 0 ∨ ln a ≤ i.toNatClampNeg)) (hdg : decode cc pc = .ok (.bastore, 1))
    (kk : ∀ (H1 : Heap) (locs1 : List Loc), XD g (upI I a i.toNatClampNeg x) s H1 locs1 → W p l e R s m args below meth c H1 locs1 cells slots Q (F0 m (pc + 1) ls rest)) : W p l e R s m args below meth c H locs cells slots Q (F0 m pc ls (.int x :: .int i :: .ref (gR g a) :: rest)) :=
  va_zast (D := gD g) X.hx X.hb X.2.1 Y.1 (Wd_D X.hg I) Y.2.1 a 1 (by rw [Wd_at ha, cel_z hk]) rfl hin hdg
    (fun H1 locs1 hP hD hS => kk H1 locs1 (Y.upd ha (Wd_set ha (by rw [cel_z hk, upR_s, hx]) (fun b hb => upR_n hb)) hP hS))
theorem x_aald {a : Nat} {i : Int32} (X : XC g p s m args c cc nL own) (Y : XD g I s H locs) (hk : kd a = 9) (ha : a < 64) (hin : ¬ (i < 0 ∨ ln a ≤ i.toNatClampNeg)) (hdg : decode cc pc = .ok (.aaload, 1))
    (kk : W p l e R s m args below meth c H locs cells slots Q (F0 m (pc + 1) ls (.ref (gR g (el a i.toNatClampNeg)) :: rest))) : W p l e R s m args below meth c H locs cells slots Q (F0 m pc ls (.int i :: .ref (gR g a) :: rest)) :=
  va_aldq (D := gD g) (f := fun j => some (gR g (el a j))) X.hx X.hb X.2.1 Y.1 a 2 (by rw [Wd_at ha, cel_o hk]) rfl hin hdg kk
theorem x_len {a : Nat} {v : Int32} (X : XC g p s m args c cc nL own) (Y : XD g I s H locs) (h : isI a = true) (hv : Int32.ofNat (ln a) = v) (hdg : decode cc pc = .ok (.arraylength, 1))
    (kk : W p l e R s m args below meth c H locs cells slots Q (F0 m (pc + 1) ls (.int v :: rest))) : W p l e R s m args below meth c H locs cells slots Q (F0 m pc ls (.ref (gR g a) :: rest)) := by
  rcases isI_s h with ⟨h1, h2⟩ | ⟨h1, h2, h3⟩
  · exact va_alen (D := gD g) X.hx X.hb X.2.1 Y.1 a 0 (by rw [Wd_at h2, cel_i h1]) rfl hv hdg kk
  · exact va_tlen X.hx X.hb (X.2.2.2.1.2 a h1 h2) Y.2.1 (by rw [← h3]; exact hv) hdg kk
theorem x_lenZ {a : Nat} {v : Int32} (X : XC g p s m args c cc nL own) (Y : XD g I s H locs) (hk : kd a = 8) (ha : a < 64) (hv : Int32.ofNat (ln a) = v) (hdg : decode cc pc = .ok (.arraylength, 1))
    (kk : W p l e R s m args below meth c H locs cells slots Q (F0 m (pc + 1) ls (.int v :: rest))) : W p l e R s m args below meth c H locs cells slots Q (F0 m pc ls (.ref (gR g a) :: rest)) :=
  va_alen (D := gD g) X.hx X.hb X.2.1 Y.1 a 1 (by rw [Wd_at ha, cel_z hk]) rfl hv hdg kk
theorem x_lenO {a : Nat} {v : Int32} (X : XC g p s m args c cc nL own) (Y : XD g I s H locs) (hk : kd a = 9) (ha : a < 64) (hv : Int32.ofNat (ln a) = v) (hdg : decode cc pc = .ok (.arraylength, 1))
    (kk : W p l e R s m args below meth c H locs cells slots Q (F0 m (pc + 1) ls (.int v :: rest))) : W p l e R s m args below meth c H locs cells slots Q (F0 m pc ls (.ref (gR g a) :: rest)) :=
  va_alen (D := gD g) X.hx X.hb X.2.1 Y.1 a 2 (by rw [Wd_at ha, cel_o hk]) rfl hv hdg kk
theorem x_gst {a idx : Nat} {n : String} (X : XC g p s m args c cc nL own) (Y : XD g I s H locs) (hZ : va_Z RX5 n "[I" (.ref (gR g a)) (gA g) s s.heap) (hw : Cond.fieldLink own idx RX5 n "[I" ∈ WL) (hdg : decode cc pc = .ok (.getstatic idx, 3))
    (kk : W p l e R s m args below meth c H locs cells slots Q (F0 m (pc + 3) ls (.ref (gR g a) :: rest))) : W p l e R s m args below meth c H locs cells slots Q (F0 m pc ls rest) :=
  va_gets X.hx X.hb hZ Y.2.1 X.1.2.2.2.1 (X.w hw) (fun _ h => h) hdg kk
end XR
section XE
variable {g : GX} {I : HI} {p : Program} {l : Launch} {e : Env} {R : Room} {s : State} {m : MethodId} {args : Array Value} {below : List Frame} {meth : Method} {c : Code} {H : Heap} {locs : List Loc} {cells slots : Nat} {Q : State → Prop}
variable {cc : ByteArray} {nL : Nat} {own : String} {pc : Nat} {ls : Array Slot} {rest st : List Value}
/-! ends -/
theorem x_iret {v : Int32} {r : Int32 × HI} (X : XC g p s m args c cc nL own) (Y : XD g I s H locs) (hr : meth.sig.returnType = some .int) (hlk : meth.locks = false) (hf : some (v, I) = some r) (hdg : decode cc pc = .ok (.ireturn, 1)) :
    W p l e R s m args below meth c H locs cells slots (MQ below (xQi g r.1 r.2) args s cells slots (gA g)) (F0 m pc ls [.int v]) := by
  cases hf
  exact W.iret X.hx X.hb hr (fun t ht hW => ⟨⟨v, I, rfl, rfl, rfl, by rw [ht]; exact Y.1, Y.2.2⟩, Y.2.1.F ht⟩) Y.2.1.2.2 hdg hlk
theorem x_zret {v : Int32} {r : Int32 × HI} (X : XC g p s m args c cc nL own) (Y : XD g I s H locs) (hr : meth.sig.returnType = some .boolean) (hlk : meth.locks = false) (hn : narrow .boolean (.int v) = .int v) (hf : some (v, I) = some r) (hdg : decode cc pc = .ok (.ireturn, 1)) :
    W p l e R s m args below meth c H locs cells slots (MQ below (xQi g r.1 r.2) args s cells slots (gA g)) (F0 m pc ls [.int v]) := by
  cases hf
  exact W.zret X.hx X.hb hr hn (fun t ht hW => ⟨⟨v, I, rfl, rfl, rfl, by rw [ht]; exact Y.1, Y.2.2⟩, Y.2.1.F ht⟩) Y.2.1.2.2 hdg hlk
theorem bool_t {v : Int32} {α : Type} {x : α} {b : Option α} (e : (if v = 0 ∨ v = 1 then b else none) = some x) : narrow .boolean (.int v) = .int v ∧ b = some x := by
  by_cases h : v = 0 ∨ v = 1
  · rw [if_pos h] at e
    exact ⟨by rcases h with rfl | rfl <;> rfl, e⟩
  · rw [if_neg h] at e; cases e
theorem x_vret {r : Int32 × HI} (X : XC g p s m args c cc nL own) (Y : XD g I s H locs) (hr : meth.sig.returnType = none) (hlk : meth.locks = false) (hf : some ((0 : Int32), I) = some r) (hdg : decode cc pc = .ok (.return_, 1)) :
    W p l e R s m args below meth c H locs cells slots (MQ below (xQv g r.2) args s cells slots (gA g)) (F0 m pc ls []) := by
  cases hf
  exact W.vret X.hx X.hb hr (fun t ht hW => ⟨⟨I, rfl, trivial, rfl, by rw [ht]; exact Y.1, Y.2.2⟩, Y.2.1.F ht⟩) Y.2.1.2.2 hdg hlk
theorem x_aret {a : Nat} {r : Nat × HI} {n : String} (X : XC g p s m args c cc nL own) (Y : XD g I s H locs) (hr : meth.sig.returnType = some (.object n)) (hlk : meth.locks = false) (hf : some (a, I) = some r) (hdg : decode cc pc = .ok (.areturn, 1)) :
    W p l e R s m args below meth c H locs cells slots (MQ below (xQr g r.1 r.2) args s cells slots (gA g)) (F0 m pc ls [.ref (gR g a)]) := by
  cases hf
  exact W.aret X.hx X.hb hr (Or.inl ⟨n, rfl⟩) (Or.inr ⟨_, rfl⟩) (fun t ht hW => ⟨⟨I, gR g a, rfl, trivial, rfl, rfl, by rw [ht]; exact Y.1, Y.2.2⟩, Y.2.1.F ht⟩) Y.2.1.2.2 hdg hlk
/-! calls -/
theorem XD.call {I1 u : HI} {t : State} {H1 : Heap} {locs1 : List Loc} (ht : t.heap = H1) (hB : xB g I1 u t) (hS : va_S (gA g) s.heap H1 locs1) : XD g I1 s H1 locs1 := by
  obtain ⟨rfl, h1, h2⟩ := hB
  exact ⟨by rw [← ht]; exact h1, hS, h2⟩
theorem free_A {H : Heap} {A : Nat → Prop} : ∀ q : Nat, q < H.size → A q → A q := fun _ _ h => h
variable {y : MethodName} {bytes : ByteArray} {maxL n idx a ci N : Nat} {C : String} {T : u_T} {ret : Option FieldType} {rm : Room} {As : List Value} {q : Int32 × HI}
theorem x_rV {Qc : Array Value → State → Outcome → State → Prop} (X : XC g p s m args c cc nL own) (Y : XD g I s H locs) (k : xLV own idx C y bytes maxL ret n) (hM : Met l y (Cond.code y bytes maxL ret :: WL) rm (xP g (.ref (gR g a) :: As) I) Qc 0 0 (gA g)) (hcl : vwCl[ci]? = some (C, T, N)) (hk : kd a = ci) (ha : a < 64) (hn : As.length = n) (hrm : rm.cells = 0 ∧ rm.slots = 0) (hR : rm.frames + 1 ≤ R.frames ∧ 8 + (maxL + 11) + rm.locals ≤ R.locals) (hl : ls.size = nL) (hst : st = As.reverse ++ .ref (gR g a) :: rest) (hW : (rest.map fun v => v.category).sum ≤ 8) (hdg : decode cc pc = .ok (.invokevirtual idx, 3)) (hcs : cells + 0 ≤ R.cells ∧ slots + 0 ≤ R.slots) :
    va_Run p l e R s m args below meth c H locs cells slots 0 0 (F0 m pc ls st) rest (Qc (Value.ref (gR g a) :: As).toArray) (gA g) := by
  have h7 : ci < 7 := by
    have := (List.getElem?_eq_some_iff.mp hcl).1
    exact this
  exact va_runV (As := As) (rest := rest) X.1 hM (cwV n X.1.2.2.2.2 k.1 rfl hrm.1 hrm.2 k.2 hR) ⟨xP_blind, va_recv X.2.1 Y.1 (ci := ci) (q0 := a) hcl (by rw [Wd_at ha, cel_c hk h7]), Y.pre X⟩ rfl hn hl hst (lv_room hW) hdg hcs
theorem x_rS {Qc : Array Value → State → Outcome → State → Prop} (X : XC g p s m args c cc nL own) (Y : XD g I s H locs) (k : xLS own idx y bytes maxL ret n) (hM : Met l y (Cond.code y bytes maxL ret :: WL) rm (xP g As I) Qc 0 0 (gA g)) (hn : As.length = n) (hrm : rm.cells = 0 ∧ rm.slots = 0) (hR : rm.frames + 1 ≤ R.frames ∧ 8 + (maxL + 11) + rm.locals ≤ R.locals) (hl : ls.size = nL) (hst : st = As.reverse ++ rest) (hW : (rest.map fun v => v.category).sum ≤ 8) (hdg : decode cc pc = .ok (.invokestatic idx, 3)) (hcs : cells + 0 ≤ R.cells ∧ slots + 0 ≤ R.slots) :
    va_Run p l e R s m args below meth c H locs cells slots 0 0 (F0 m pc ls st) rest (Qc As.toArray) (gA g) :=
  va_runS (As := As) (rest := rest) X.1 hM (va_cwS n X.1.2.2.2.2 k.1 rfl hrm.1 hrm.2 k.2 hR) ⟨xP_blind, Y.pre X⟩ rfl hn hl hst (lv_room hW) hdg hcs
theorem x_rSN {host : String} {Qc : Array Value → State → Outcome → State → Prop} (X : XC g p s m args c cc nL own) (Y : XD g I s H locs) (k : xLSN own idx y host bytes maxL ret n) (hM : Met l y (Cond.code y bytes maxL ret :: WL) rm (xP g As I) Qc 0 0 (gA g)) (hn : As.length = n) (hrm : rm.cells = 0 ∧ rm.slots = 0) (hR : rm.frames + 1 ≤ R.frames ∧ 8 + (maxL + 11) + rm.locals ≤ R.locals) (hl : ls.size = nL) (hst : st = As.reverse ++ rest) (hW : (rest.map fun v => v.category).sum ≤ 8) (hdg : decode cc pc = .ok (.invokestatic idx, 3)) (hcs : cells + 0 ≤ R.cells ∧ slots + 0 ≤ R.slots) :
    va_Run p l e R s m args below meth c H locs cells slots 0 0 (F0 m pc ls st) rest (Qc As.toArray) (gA g) :=
  va_runSN (As := As) (rest := rest) X.1 hM ⟨va_cnB n X.1.2.2.2.2 (gi_c k.1.1) rfl hrm.1 hrm.2 (X.2.2.1 _ k.1.2.2.1) (X.w k.1.2.1) k.2 hR, X.w k.1.2.2.2, trivial⟩ ⟨xP_blind, Y.pre X⟩ rfl hn hl hst (lv_room hW) hdg hcs
theorem x_ci {av : Array Value} (Y : XD g I s H locs) (hr : va_Run p l e R s m args below meth c H locs cells slots 0 0 (F0 m pc ls st) rest (xQi g q.1 q.2 av) (gA g)) (kk : ∀ (H1 : Heap) (locs1 : List Loc), XD g q.2 s H1 locs1 → W p l e R s m args below meth c H1 locs1 cells slots Q (F0 m (pc + 3) ls (.int q.1 :: rest))) : W p l e R s m args below meth c H locs cells slots Q (F0 m pc ls st) :=
  va_calli hr Y.2.1 free_A (fun _ h => h) (fun r u t H1 locs1 ht hvm hp hB hz hk hS => by subst hp; exact kk H1 locs1 (XD.call ht hB hS))
theorem x_cv {av : Array Value} (Y : XD g I s H locs) (hr : va_Run p l e R s m args below meth c H locs cells slots 0 0 (F0 m pc ls st) rest (xQv g q.2 av) (gA g)) (kk : ∀ (H1 : Heap) (locs1 : List Loc), XD g q.2 s H1 locs1 → W p l e R s m args below meth c H1 locs1 cells slots Q (F0 m (pc + 3) ls rest)) : W p l e R s m args below meth c H locs cells slots Q (F0 m pc ls st) :=
  va_callv hr Y.2.1 free_A (fun _ h => h) (fun u t H1 locs1 ht hvm hp hB hz hk hS => kk H1 locs1 (XD.call ht hB hS))
theorem x_cr {av : Array Value} {q : Nat × HI} (Y : XD g I s H locs) (hr : va_Run p l e R s m args below meth c H locs cells slots 0 0 (F0 m pc ls st) rest (xQr g q.1 q.2 av) (gA g)) (kk : ∀ (H1 : Heap) (locs1 : List Loc), XD g q.2 s H1 locs1 → W p l e R s m args below meth c H1 locs1 cells slots Q (F0 m (pc + 3) ls (.ref (gR g q.1) :: rest))) : W p l e R s m args below meth c H locs cells slots Q (F0 m pc ls st) :=
  va_callr hr Y.2.1 free_A (fun _ h => h) (fun u ra t H1 locs1 ht hvm hp hB hz hk hS => by
    obtain ⟨rfl, hB⟩ := hB
    exact kk H1 locs1 (XD.call ht hB hS))
theorem x_min {x z : Int32} (X : XC g p s m args c cc nL own) (hl : ls.size = nL) (hw : Cond.methodLink own idx Lib.Math.min.name ∈ WL) (hR : 1 ≤ R.frames ∧ (rest.map fun v => v.category).sum + 13 ≤ R.locals) (hcs : cells + 0 ≤ R.cells ∧ slots + 0 ≤ R.slots) (hdg : decode cc pc = .ok (.invokestatic idx, 3))
    (kk : W p l e R s m args below meth c H locs cells slots Q (F0 m (pc + 3) ls (.int (if z < x then z else x) :: rest))) : W p l e R s m args below meth c H locs cells slots Q (F0 m pc ls (.int z :: .int x :: rest)) :=
  va_mmin X.hx X.hb (by rw [X.1.2.2.1, hl]) X.1.2.2.2.1 (X.w hw) (X.w wt_jmin) (X.w wz_Math) (X.w wc_jmin) hR.1 hR.2 hcs.1 hcs.2 hdg kk
theorem x_max {x z : Int32} (X : XC g p s m args c cc nL own) (hl : ls.size = nL) (hw : Cond.methodLink own idx Lib.Math.max.name ∈ WL) (hR : 1 ≤ R.frames ∧ (rest.map fun v => v.category).sum + 13 ≤ R.locals) (hcs : cells + 0 ≤ R.cells ∧ slots + 0 ≤ R.slots) (hdg : decode cc pc = .ok (.invokestatic idx, 3))
    (kk : W p l e R s m args below meth c H locs cells slots Q (F0 m (pc + 3) ls (.int (if x < z then z else x) :: rest))) : W p l e R s m args below meth c H locs cells slots Q (F0 m pc ls (.int z :: .int x :: rest)) :=
  va_mmax X.hx X.hb (by rw [X.1.2.2.1, hl]) X.1.2.2.2.1 (X.w hw) (X.w wt_jmax) (X.w wz_Math) (X.w wc_jmax) hR.1 hR.2 hcs.1 hcs.2 hdg kk
theorem x_abs {x : Int32} (X : XC g p s m args c cc nL own) (hl : ls.size = nL) (hw : Cond.methodLink own idx Lib.Math.abs.name ∈ WL) (hR : 1 ≤ R.frames ∧ (rest.map fun v => v.category).sum + 13 ≤ R.locals) (hcs : cells + 0 ≤ R.cells ∧ slots + 0 ≤ R.slots) (hdg : decode cc pc = .ok (.invokestatic idx, 3))
    (kk : W p l e R s m args below meth c H locs cells slots Q (F0 m (pc + 3) ls (.int (if 0 ≤ x then x else 0 - x) :: rest))) : W p l e R s m args below meth c H locs cells slots Q (F0 m pc ls (.int x :: rest)) :=
  va_mabs X.hx X.hb (by rw [X.1.2.2.1, hl]) X.1.2.2.2.1 (X.w hw) (X.w wt_jabs) (X.w wz_Math) (X.w wc_jabs) hR.1 hR.2 hcs.1 hcs.2 hdg kk
theorem x_copy {a b : Nat} {n : Int32} (X : XC g p s m args c cc nL own) (Y : XD g I s H locs) (ha : isD a = true) (hb : isD b = true) (hn : ¬ n < 0) (h4 : n.toNatClampNeg ≤ ln a) (h5 : n.toNatClampNeg ≤ ln b) (hl : ls.size = nL) (hw : Cond.methodLink own idx arraycopyName ∈ WL) (hR : 1 ≤ R.frames ∧ (rest.map fun v => v.category).sum + (nativeFrameWords "java/lang/System" "arraycopy" 5 + 11) ≤ R.locals) (hdg : decode cc pc = .ok (.invokestatic idx, 3))
    (kk : ∀ (H1 : Heap) (locs1 : List Loc), XD g (upR I b (va_cpy (I a) (I b) 0 0 n.toNatClampNeg)) s H1 locs1 → W p l e R s m args below meth c H1 locs1 cells slots Q (F0 m (pc + 3) ls rest)) : W p l e R s m args below meth c H locs cells slots Q (F0 m pc ls (.int n :: .int 0 :: .ref (gR g b) :: .int 0 :: .ref (gR g a) :: rest)) := by
  obtain ⟨hka, ha⟩ := isD_s ha
  obtain ⟨hkb, hb⟩ := isD_s hb
  have z0 : (0 : Int32).toNatClampNeg = 0 := by decide
  exact va_copyi (D := gD g) X.hx X.hb (by rw [X.1.2.2.1, hl]) X.1.2.2.2.1 (X.w hw) (X.w wv_jcopy) (X.w wt_jcopy) (X.w wz_System) X.2.1 Y.1 (Wd_D X.hg I) Y.2.1 a b 0 0 (by rw [Wd_at ha, cel_i hka]) (by rw [Wd_at hb, cel_i hkb]) rfl rfl rfl (by decide) (by decide) hn (by rw [z0, Nat.zero_add]; exact h4) (by rw [z0, Nat.zero_add]; exact h5) (fun i hi => rfl) hR.1 hR.2 hdg
    (fun H1 locs1 hP hD hS => kk H1 locs1 (Y.upd hb (Wd_set hb (by rw [cel_i hkb, upR_s, z0]) (fun b hb => upR_n hb)) hP hS))
end XE
theorem cl_0 : xCl 0 RX0 TX0 3 tyX0 := ⟨rfl, inX0, tyX0_ok, nmX0, by decide, by decide⟩
theorem cl_1 : xCl 1 RX1 TX1 15 tyX1 := ⟨rfl, inX1, tyX1_ok, nmX1, by decide, by decide⟩
theorem cl_2 : xCl 2 RX2 TX2 9 tyX2 := ⟨rfl, inX2, tyX2_ok, nmX2, by decide, by decide⟩
theorem cl_3 : xCl 3 RX3 TX3 2 tyX3 := ⟨rfl, inX3, tyX3_ok, nmX3, by decide, by decide⟩
theorem cl_4 : xCl 4 RX4 TX4 2 tyX4 := ⟨rfl, inX4, tyX4_ok, nmX4, by decide, by decide⟩
theorem cl_5 : xCl 5 RX5 TX5 4 tyX5 := ⟨rfl, inX5, tyX5_ok, nmX5, by decide, by decide⟩
theorem cl_6 : xCl 6 RX6 TX6 13 tyX6 := ⟨rfl, inX6, tyX6_ok, nmX6, by decide, by decide⟩
end
