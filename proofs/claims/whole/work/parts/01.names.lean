-- ===== PART A: goes FIRST, ahead of the names: the tables' words, and 'selects' of the private methods out of them =====
/-- a private method of a class that the tables say can be made, by its rows of tables_1 -/
def lw_okq (q : MethodName × Nat) : Prop := (q.1.cls ≠ "java/lang/invoke/MethodHandle" ∧ q.1.cls ≠ "java/lang/invoke/VarHandle") ∧ Cond.instantiable q.1.cls q.2 ∈ tables_1 ∧ Cond.privateMethod q.1 ∈ tables_1 ∧ Cond.instanceMethod q.1 ∈ tables_1
theorem lw_p0 : lw_okq (⟨"CaptureSegments$Memory", "fits", "(II)Z"⟩, 15) := ⟨⟨by decide +kernel, by decide +kernel⟩, List.mem_of_getElem? (i := 19) (by decide +kernel), List.mem_of_getElem? (i := 203) (by decide +kernel), List.mem_of_getElem? (i := 204) (by decide +kernel)⟩
theorem lw_p1 : lw_okq (⟨"CaptureSegments$Memory", "takeSample", "(I)Z"⟩, 15) := ⟨⟨by decide +kernel, by decide +kernel⟩, List.mem_of_getElem? (i := 19) (by decide +kernel), List.mem_of_getElem? (i := 261) (by decide +kernel), List.mem_of_getElem? (i := 262) (by decide +kernel)⟩
theorem lw_p2 : lw_okq (⟨"CaptureSegments$Memory", "detect", "(I)Z"⟩, 15) := ⟨⟨by decide +kernel, by decide +kernel⟩, List.mem_of_getElem? (i := 19) (by decide +kernel), List.mem_of_getElem? (i := 265) (by decide +kernel), List.mem_of_getElem? (i := 266) (by decide +kernel)⟩
theorem lw_p3 : lw_okq (⟨"CaptureSegments$Memory", "detectorAfter", "(III)I"⟩, 15) := ⟨⟨by decide +kernel, by decide +kernel⟩, List.mem_of_getElem? (i := 19) (by decide +kernel), List.mem_of_getElem? (i := 269) (by decide +kernel), List.mem_of_getElem? (i := 270) (by decide +kernel)⟩
theorem lw_p4 : lw_okq (⟨"CaptureSegments$Memory", "beginSegment", "()V"⟩, 15) := ⟨⟨by decide +kernel, by decide +kernel⟩, List.mem_of_getElem? (i := 19) (by decide +kernel), List.mem_of_getElem? (i := 277) (by decide +kernel), List.mem_of_getElem? (i := 278) (by decide +kernel)⟩
theorem lw_p5 : lw_okq (⟨"CaptureSegments$Memory", "completeSegment", "()V"⟩, 15) := ⟨⟨by decide +kernel, by decide +kernel⟩, List.mem_of_getElem? (i := 19) (by decide +kernel), List.mem_of_getElem? (i := 281) (by decide +kernel), List.mem_of_getElem? (i := 282) (by decide +kernel)⟩
theorem lw_p6 : lw_okq (⟨"CaptureSegments$Pad", "readOrder", "()Z"⟩, 9) := ⟨⟨by decide +kernel, by decide +kernel⟩, List.mem_of_getElem? (i := 136) (by decide +kernel), List.mem_of_getElem? (i := 422) (by decide +kernel), List.mem_of_getElem? (i := 423) (by decide +kernel)⟩
theorem lw_p7 : lw_okq (⟨"CaptureSegments$Pad", "code", "()I"⟩, 9) := ⟨⟨by decide +kernel, by decide +kernel⟩, List.mem_of_getElem? (i := 136) (by decide +kernel), List.mem_of_getElem? (i := 426) (by decide +kernel), List.mem_of_getElem? (i := 427) (by decide +kernel)⟩
theorem lw_p8 : lw_okq (⟨"CaptureSegments$Pad", "readKind", "()Z"⟩, 9) := ⟨⟨by decide +kernel, by decide +kernel⟩, List.mem_of_getElem? (i := 136) (by decide +kernel), List.mem_of_getElem? (i := 430) (by decide +kernel), List.mem_of_getElem? (i := 431) (by decide +kernel)⟩
theorem lw_p9 : lw_okq (⟨"CaptureSegments$Pad", "addStep", "(III)V"⟩, 9) := ⟨⟨by decide +kernel, by decide +kernel⟩, List.mem_of_getElem? (i := 136) (by decide +kernel), List.mem_of_getElem? (i := 434) (by decide +kernel), List.mem_of_getElem? (i := 435) (by decide +kernel)⟩
theorem lw_p10 : lw_okq (⟨"CaptureSegments$Pad", "readLevel", "()Z"⟩, 9) := ⟨⟨by decide +kernel, by decide +kernel⟩, List.mem_of_getElem? (i := 136) (by decide +kernel), List.mem_of_getElem? (i := 438) (by decide +kernel), List.mem_of_getElem? (i := 439) (by decide +kernel)⟩
theorem lw_p11 : lw_okq (⟨"CaptureSegments$Pad", "readValue", "()Z"⟩, 9) := ⟨⟨by decide +kernel, by decide +kernel⟩, List.mem_of_getElem? (i := 136) (by decide +kernel), List.mem_of_getElem? (i := 442) (by decide +kernel), List.mem_of_getElem? (i := 443) (by decide +kernel)⟩
theorem lw_p12 : lw_okq (⟨"CaptureSegments$Pad", "readNumber", "()Z"⟩, 9) := ⟨⟨by decide +kernel, by decide +kernel⟩, List.mem_of_getElem? (i := 136) (by decide +kernel), List.mem_of_getElem? (i := 446) (by decide +kernel), List.mem_of_getElem? (i := 447) (by decide +kernel)⟩
theorem lw_p13 : lw_okq (⟨"CaptureSegments$Pad", "readSample", "()Z"⟩, 9) := ⟨⟨by decide +kernel, by decide +kernel⟩, List.mem_of_getElem? (i := 136) (by decide +kernel), List.mem_of_getElem? (i := 453) (by decide +kernel), List.mem_of_getElem? (i := 454) (by decide +kernel)⟩
theorem lw_p14 : lw_okq (⟨"CaptureSegments", "carryOutStep", "(I)I"⟩, 4) := ⟨⟨by decide +kernel, by decide +kernel⟩, List.mem_of_getElem? (i := 11) (by decide +kernel), List.mem_of_getElem? (i := 461) (by decide +kernel), List.mem_of_getElem? (i := 462) (by decide +kernel)⟩
theorem lw_p15 : lw_okq (⟨"CaptureSegmentsModel", "keep", "()V"⟩, 13) := ⟨⟨by decide +kernel, by decide +kernel⟩, List.mem_of_getElem? (i := 501) (by decide +kernel), List.mem_of_getElem? (i := 551) (by decide +kernel), List.mem_of_getElem? (i := 552) (by decide +kernel)⟩
def lw_privs_1 : List (MethodName × Nat) := [(⟨"CaptureSegments$Memory", "fits", "(II)Z"⟩, 15), (⟨"CaptureSegments$Memory", "takeSample", "(I)Z"⟩, 15), (⟨"CaptureSegments$Memory", "detect", "(I)Z"⟩, 15), (⟨"CaptureSegments$Memory", "detectorAfter", "(III)I"⟩, 15), (⟨"CaptureSegments$Memory", "beginSegment", "()V"⟩, 15), (⟨"CaptureSegments$Memory", "completeSegment", "()V"⟩, 15), (⟨"CaptureSegments$Pad", "readOrder", "()Z"⟩, 9), (⟨"CaptureSegments$Pad", "code", "()I"⟩, 9), (⟨"CaptureSegments$Pad", "readKind", "()Z"⟩, 9), (⟨"CaptureSegments$Pad", "addStep", "(III)V"⟩, 9), (⟨"CaptureSegments$Pad", "readLevel", "()Z"⟩, 9), (⟨"CaptureSegments$Pad", "readValue", "()Z"⟩, 9), (⟨"CaptureSegments$Pad", "readNumber", "()Z"⟩, 9), (⟨"CaptureSegments$Pad", "readSample", "()Z"⟩, 9), (⟨"CaptureSegments", "carryOutStep", "(I)I"⟩, 4), (⟨"CaptureSegmentsModel", "keep", "()V"⟩, 13)]
theorem lw_r1 : ∀ q ∈ lw_privs_1, lw_okq q := List.forall_mem_cons.mpr ⟨lw_p0, List.forall_mem_cons.mpr ⟨lw_p1, List.forall_mem_cons.mpr ⟨lw_p2, List.forall_mem_cons.mpr ⟨lw_p3, List.forall_mem_cons.mpr ⟨lw_p4, List.forall_mem_cons.mpr ⟨lw_p5, List.forall_mem_cons.mpr ⟨lw_p6, List.forall_mem_cons.mpr ⟨lw_p7, List.forall_mem_cons.mpr ⟨lw_p8, List.forall_mem_cons.mpr ⟨lw_p9, List.forall_mem_cons.mpr ⟨lw_p10, List.forall_mem_cons.mpr ⟨lw_p11, List.forall_mem_cons.mpr ⟨lw_p12, List.forall_mem_cons.mpr ⟨lw_p13, List.forall_mem_cons.mpr ⟨lw_p14, List.forall_mem_cons.mpr ⟨lw_p15, fun _ h => absurd h List.not_mem_nil⟩⟩⟩⟩⟩⟩⟩⟩⟩⟩⟩⟩⟩⟩⟩⟩
theorem lw_p16 : lw_okq (⟨"CaptureSegmentsModel", "doSet", "(II)I"⟩, 13) := ⟨⟨by decide +kernel, by decide +kernel⟩, List.mem_of_getElem? (i := 501) (by decide +kernel), List.mem_of_getElem? (i := 555) (by decide +kernel), List.mem_of_getElem? (i := 556) (by decide +kernel)⟩
theorem lw_p17 : lw_okq (⟨"CaptureSegmentsModel", "dropsOldest", "(I)V"⟩, 13) := ⟨⟨by decide +kernel, by decide +kernel⟩, List.mem_of_getElem? (i := 501) (by decide +kernel), List.mem_of_getElem? (i := 576) (by decide +kernel), List.mem_of_getElem? (i := 577) (by decide +kernel)⟩
theorem lw_p18 : lw_okq (⟨"CaptureSegmentsModel", "takesOut", "(I)V"⟩, 13) := ⟨⟨by decide +kernel, by decide +kernel⟩, List.mem_of_getElem? (i := 501) (by decide +kernel), List.mem_of_getElem? (i := 580) (by decide +kernel), List.mem_of_getElem? (i := 581) (by decide +kernel)⟩
theorem lw_p19 : lw_okq (⟨"CaptureSegmentsModel", "changed", "(I)I"⟩, 13) := ⟨⟨by decide +kernel, by decide +kernel⟩, List.mem_of_getElem? (i := 501) (by decide +kernel), List.mem_of_getElem? (i := 584) (by decide +kernel), List.mem_of_getElem? (i := 585) (by decide +kernel)⟩
theorem lw_p20 : lw_okq (⟨"CaptureSegmentsModel", "doFeed", "(II)I"⟩, 13) := ⟨⟨by decide +kernel, by decide +kernel⟩, List.mem_of_getElem? (i := 501) (by decide +kernel), List.mem_of_getElem? (i := 592) (by decide +kernel), List.mem_of_getElem? (i := 593) (by decide +kernel)⟩
theorem lw_p21 : lw_okq (⟨"CaptureSegmentsModel", "comes", "(I)V"⟩, 13) := ⟨⟨by decide +kernel, by decide +kernel⟩, List.mem_of_getElem? (i := 501) (by decide +kernel), List.mem_of_getElem? (i := 596) (by decide +kernel), List.mem_of_getElem? (i := 597) (by decide +kernel)⟩
theorem lw_p22 : lw_okq (⟨"CaptureSegmentsModel", "isFiring", "(IIII)Z"⟩, 13) := ⟨⟨by decide +kernel, by decide +kernel⟩, List.mem_of_getElem? (i := 501) (by decide +kernel), List.mem_of_getElem? (i := 600) (by decide +kernel), List.mem_of_getElem? (i := 601) (by decide +kernel)⟩
theorem lw_p23 : lw_okq (⟨"CaptureSegmentsModel", "isLongEnough", "()Z"⟩, 13) := ⟨⟨by decide +kernel, by decide +kernel⟩, List.mem_of_getElem? (i := 501) (by decide +kernel), List.mem_of_getElem? (i := 604) (by decide +kernel), List.mem_of_getElem? (i := 605) (by decide +kernel)⟩
theorem lw_p24 : lw_okq (⟨"CaptureSegmentsModel", "hasRoom", "()Z"⟩, 13) := ⟨⟨by decide +kernel, by decide +kernel⟩, List.mem_of_getElem? (i := 501) (by decide +kernel), List.mem_of_getElem? (i := 608) (by decide +kernel), List.mem_of_getElem? (i := 609) (by decide +kernel)⟩
theorem lw_p25 : lw_okq (⟨"CaptureSegmentsModel", "captures", "()V"⟩, 13) := ⟨⟨by decide +kernel, by decide +kernel⟩, List.mem_of_getElem? (i := 501) (by decide +kernel), List.mem_of_getElem? (i := 612) (by decide +kernel), List.mem_of_getElem? (i := 613) (by decide +kernel)⟩
theorem lw_p26 : lw_okq (⟨"CaptureSegmentsModel", "lacking", "()I"⟩, 13) := ⟨⟨by decide +kernel, by decide +kernel⟩, List.mem_of_getElem? (i := 501) (by decide +kernel), List.mem_of_getElem? (i := 616) (by decide +kernel), List.mem_of_getElem? (i := 617) (by decide +kernel)⟩
theorem lw_p27 : lw_okq (⟨"CaptureSegmentsModel", "completes", "()V"⟩, 13) := ⟨⟨by decide +kernel, by decide +kernel⟩, List.mem_of_getElem? (i := 501) (by decide +kernel), List.mem_of_getElem? (i := 620) (by decide +kernel), List.mem_of_getElem? (i := 621) (by decide +kernel)⟩
theorem lw_p28 : lw_okq (⟨"CaptureSegmentsModel", "doClear", "()I"⟩, 13) := ⟨⟨by decide +kernel, by decide +kernel⟩, List.mem_of_getElem? (i := 501) (by decide +kernel), List.mem_of_getElem? (i := 628) (by decide +kernel), List.mem_of_getElem? (i := 629) (by decide +kernel)⟩
theorem lw_p29 : lw_okq (⟨"CaptureSegmentsModel", "isSegment", "(I)Z"⟩, 13) := ⟨⟨by decide +kernel, by decide +kernel⟩, List.mem_of_getElem? (i := 501) (by decide +kernel), List.mem_of_getElem? (i := 636) (by decide +kernel), List.mem_of_getElem? (i := 637) (by decide +kernel)⟩
theorem lw_p30 : lw_okq (⟨"CaptureSegmentsModel", "of", "(II)I"⟩, 13) := ⟨⟨by decide +kernel, by decide +kernel⟩, List.mem_of_getElem? (i := 501) (by decide +kernel), List.mem_of_getElem? (i := 644) (by decide +kernel), List.mem_of_getElem? (i := 645) (by decide +kernel)⟩
theorem lw_p31 : lw_okq (⟨"CaptureSegmentsModel", "least", "(I)I"⟩, 13) := ⟨⟨by decide +kernel, by decide +kernel⟩, List.mem_of_getElem? (i := 501) (by decide +kernel), List.mem_of_getElem? (i := 648) (by decide +kernel), List.mem_of_getElem? (i := 649) (by decide +kernel)⟩
def lw_privs_2 : List (MethodName × Nat) := [(⟨"CaptureSegmentsModel", "doSet", "(II)I"⟩, 13), (⟨"CaptureSegmentsModel", "dropsOldest", "(I)V"⟩, 13), (⟨"CaptureSegmentsModel", "takesOut", "(I)V"⟩, 13), (⟨"CaptureSegmentsModel", "changed", "(I)I"⟩, 13), (⟨"CaptureSegmentsModel", "doFeed", "(II)I"⟩, 13), (⟨"CaptureSegmentsModel", "comes", "(I)V"⟩, 13), (⟨"CaptureSegmentsModel", "isFiring", "(IIII)Z"⟩, 13), (⟨"CaptureSegmentsModel", "isLongEnough", "()Z"⟩, 13), (⟨"CaptureSegmentsModel", "hasRoom", "()Z"⟩, 13), (⟨"CaptureSegmentsModel", "captures", "()V"⟩, 13), (⟨"CaptureSegmentsModel", "lacking", "()I"⟩, 13), (⟨"CaptureSegmentsModel", "completes", "()V"⟩, 13), (⟨"CaptureSegmentsModel", "doClear", "()I"⟩, 13), (⟨"CaptureSegmentsModel", "isSegment", "(I)Z"⟩, 13), (⟨"CaptureSegmentsModel", "of", "(II)I"⟩, 13), (⟨"CaptureSegmentsModel", "least", "(I)I"⟩, 13)]
theorem lw_r2 : ∀ q ∈ lw_privs_2, lw_okq q := List.forall_mem_cons.mpr ⟨lw_p16, List.forall_mem_cons.mpr ⟨lw_p17, List.forall_mem_cons.mpr ⟨lw_p18, List.forall_mem_cons.mpr ⟨lw_p19, List.forall_mem_cons.mpr ⟨lw_p20, List.forall_mem_cons.mpr ⟨lw_p21, List.forall_mem_cons.mpr ⟨lw_p22, List.forall_mem_cons.mpr ⟨lw_p23, List.forall_mem_cons.mpr ⟨lw_p24, List.forall_mem_cons.mpr ⟨lw_p25, List.forall_mem_cons.mpr ⟨lw_p26, List.forall_mem_cons.mpr ⟨lw_p27, List.forall_mem_cons.mpr ⟨lw_p28, List.forall_mem_cons.mpr ⟨lw_p29, List.forall_mem_cons.mpr ⟨lw_p30, List.forall_mem_cons.mpr ⟨lw_p31, fun _ h => absurd h List.not_mem_nil⟩⟩⟩⟩⟩⟩⟩⟩⟩⟩⟩⟩⟩⟩⟩⟩
theorem lw_p32 : lw_okq (⟨"CaptureSegmentsModel", "sampleAt", "(II)I"⟩, 13) := ⟨⟨by decide +kernel, by decide +kernel⟩, List.mem_of_getElem? (i := 501) (by decide +kernel), List.mem_of_getElem? (i := 652) (by decide +kernel), List.mem_of_getElem? (i := 653) (by decide +kernel)⟩
theorem lw_p33 : lw_okq (⟨"CaptureSegmentsModel", "numberOf", "(II)I"⟩, 13) := ⟨⟨by decide +kernel, by decide +kernel⟩, List.mem_of_getElem? (i := 501) (by decide +kernel), List.mem_of_getElem? (i := 656) (by decide +kernel), List.mem_of_getElem? (i := 657) (by decide +kernel)⟩
theorem lw_p34 : lw_okq (⟨"CaptureSegmentsModel", "greatest", "(I)I"⟩, 13) := ⟨⟨by decide +kernel, by decide +kernel⟩, List.mem_of_getElem? (i := 501) (by decide +kernel), List.mem_of_getElem? (i := 660) (by decide +kernel), List.mem_of_getElem? (i := 661) (by decide +kernel)⟩
theorem lw_p35 : lw_okq (⟨"CaptureSegmentsModel", "sumOf", "(I)I"⟩, 13) := ⟨⟨by decide +kernel, by decide +kernel⟩, List.mem_of_getElem? (i := 501) (by decide +kernel), List.mem_of_getElem? (i := 664) (by decide +kernel), List.mem_of_getElem? (i := 665) (by decide +kernel)⟩
theorem lw_p36 : lw_okq (⟨"CaptureSegmentsModel", "risesIn", "(I)I"⟩, 13) := ⟨⟨by decide +kernel, by decide +kernel⟩, List.mem_of_getElem? (i := 501) (by decide +kernel), List.mem_of_getElem? (i := 668) (by decide +kernel), List.mem_of_getElem? (i := 669) (by decide +kernel)⟩
theorem lw_p37 : lw_okq (⟨"CaptureSegmentsModel", "phase", "()I"⟩, 13) := ⟨⟨by decide +kernel, by decide +kernel⟩, List.mem_of_getElem? (i := 501) (by decide +kernel), List.mem_of_getElem? (i := 686) (by decide +kernel), List.mem_of_getElem? (i := 687) (by decide +kernel)⟩
theorem lw_p38 : lw_okq (⟨"CaptureSegmentsModel", "isLevel", "(I)Z"⟩, 13) := ⟨⟨by decide +kernel, by decide +kernel⟩, List.mem_of_getElem? (i := 501) (by decide +kernel), List.mem_of_getElem? (i := 694) (by decide +kernel), List.mem_of_getElem? (i := 695) (by decide +kernel)⟩
theorem lw_p39 : lw_okq (⟨"CaptureSegmentsModel", "firings", "(I)I"⟩, 13) := ⟨⟨by decide +kernel, by decide +kernel⟩, List.mem_of_getElem? (i := 501) (by decide +kernel), List.mem_of_getElem? (i := 698) (by decide +kernel), List.mem_of_getElem? (i := 699) (by decide +kernel)⟩
theorem lw_p40 : lw_okq (⟨"CaptureSegmentsModel", "unlikeOf", "(II)I"⟩, 13) := ⟨⟨by decide +kernel, by decide +kernel⟩, List.mem_of_getElem? (i := 501) (by decide +kernel), List.mem_of_getElem? (i := 710) (by decide +kernel), List.mem_of_getElem? (i := 711) (by decide +kernel)⟩
theorem lw_p41 : lw_okq (⟨"CaptureSegmentsModel", "readsOrder", "()Z"⟩, 13) := ⟨⟨by decide +kernel, by decide +kernel⟩, List.mem_of_getElem? (i := 501) (by decide +kernel), List.mem_of_getElem? (i := 733) (by decide +kernel), List.mem_of_getElem? (i := 734) (by decide +kernel)⟩
theorem lw_p42 : lw_okq (⟨"CaptureSegmentsModel", "takes", "(I)Z"⟩, 13) := ⟨⟨by decide +kernel, by decide +kernel⟩, List.mem_of_getElem? (i := 501) (by decide +kernel), List.mem_of_getElem? (i := 737) (by decide +kernel), List.mem_of_getElem? (i := 738) (by decide +kernel)⟩
theorem lw_p43 : lw_okq (⟨"CaptureSegmentsModel", "isHere", "(II)Z"⟩, 13) := ⟨⟨by decide +kernel, by decide +kernel⟩, List.mem_of_getElem? (i := 501) (by decide +kernel), List.mem_of_getElem? (i := 741) (by decide +kernel), List.mem_of_getElem? (i := 742) (by decide +kernel)⟩
theorem lw_p44 : lw_okq (⟨"CaptureSegmentsModel", "does", "(I)V"⟩, 13) := ⟨⟨by decide +kernel, by decide +kernel⟩, List.mem_of_getElem? (i := 501) (by decide +kernel), List.mem_of_getElem? (i := 745) (by decide +kernel), List.mem_of_getElem? (i := 746) (by decide +kernel)⟩
theorem lw_p45 : lw_okq (⟨"CaptureSegmentsModel", "readsValue", "()Z"⟩, 13) := ⟨⟨by decide +kernel, by decide +kernel⟩, List.mem_of_getElem? (i := 501) (by decide +kernel), List.mem_of_getElem? (i := 749) (by decide +kernel), List.mem_of_getElem? (i := 750) (by decide +kernel)⟩
theorem lw_p46 : lw_okq (⟨"CaptureSegmentsModel", "readsNumber", "()Z"⟩, 13) := ⟨⟨by decide +kernel, by decide +kernel⟩, List.mem_of_getElem? (i := 501) (by decide +kernel), List.mem_of_getElem? (i := 753) (by decide +kernel), List.mem_of_getElem? (i := 754) (by decide +kernel)⟩
theorem lw_p47 : lw_okq (⟨"CaptureSegmentsModel", "readsSamples", "()Z"⟩, 13) := ⟨⟨by decide +kernel, by decide +kernel⟩, List.mem_of_getElem? (i := 501) (by decide +kernel), List.mem_of_getElem? (i := 757) (by decide +kernel), List.mem_of_getElem? (i := 758) (by decide +kernel)⟩
def lw_privs_3 : List (MethodName × Nat) := [(⟨"CaptureSegmentsModel", "sampleAt", "(II)I"⟩, 13), (⟨"CaptureSegmentsModel", "numberOf", "(II)I"⟩, 13), (⟨"CaptureSegmentsModel", "greatest", "(I)I"⟩, 13), (⟨"CaptureSegmentsModel", "sumOf", "(I)I"⟩, 13), (⟨"CaptureSegmentsModel", "risesIn", "(I)I"⟩, 13), (⟨"CaptureSegmentsModel", "phase", "()I"⟩, 13), (⟨"CaptureSegmentsModel", "isLevel", "(I)Z"⟩, 13), (⟨"CaptureSegmentsModel", "firings", "(I)I"⟩, 13), (⟨"CaptureSegmentsModel", "unlikeOf", "(II)I"⟩, 13), (⟨"CaptureSegmentsModel", "readsOrder", "()Z"⟩, 13), (⟨"CaptureSegmentsModel", "takes", "(I)Z"⟩, 13), (⟨"CaptureSegmentsModel", "isHere", "(II)Z"⟩, 13), (⟨"CaptureSegmentsModel", "does", "(I)V"⟩, 13), (⟨"CaptureSegmentsModel", "readsValue", "()Z"⟩, 13), (⟨"CaptureSegmentsModel", "readsNumber", "()Z"⟩, 13), (⟨"CaptureSegmentsModel", "readsSamples", "()Z"⟩, 13)]
theorem lw_r3 : ∀ q ∈ lw_privs_3, lw_okq q := List.forall_mem_cons.mpr ⟨lw_p32, List.forall_mem_cons.mpr ⟨lw_p33, List.forall_mem_cons.mpr ⟨lw_p34, List.forall_mem_cons.mpr ⟨lw_p35, List.forall_mem_cons.mpr ⟨lw_p36, List.forall_mem_cons.mpr ⟨lw_p37, List.forall_mem_cons.mpr ⟨lw_p38, List.forall_mem_cons.mpr ⟨lw_p39, List.forall_mem_cons.mpr ⟨lw_p40, List.forall_mem_cons.mpr ⟨lw_p41, List.forall_mem_cons.mpr ⟨lw_p42, List.forall_mem_cons.mpr ⟨lw_p43, List.forall_mem_cons.mpr ⟨lw_p44, List.forall_mem_cons.mpr ⟨lw_p45, List.forall_mem_cons.mpr ⟨lw_p46, List.forall_mem_cons.mpr ⟨lw_p47, fun _ h => absurd h List.not_mem_nil⟩⟩⟩⟩⟩⟩⟩⟩⟩⟩⟩⟩⟩⟩⟩⟩
def lw_privs : List (MethodName × Nat) := lw_privs_1 ++ (lw_privs_2 ++ (lw_privs_3))
def lw_tbl : List Cond := k2_sels lw_privs ++ tables_1
theorem lw_privs_ok : ∀ q ∈ lw_privs, lw_okq q := by
  show ∀ q ∈ lw_privs_1 ++ (lw_privs_2 ++ (lw_privs_3)), lw_okq q
  exact List.forall_mem_append.mpr ⟨lw_r1, List.forall_mem_append.mpr ⟨lw_r2, lw_r3⟩⟩

/-! ===== BEGIN words of one list among another's, by their places ===== -/
theorem goodIn_r {big : List Cond} (ws : List Cond) (ps : List Nat) (hp : ws = ps.filterMap (fun i => big[i]?)) (h : ws.all goodWord = true) : GoodIn big ws := by
  intro w hw
  have h1 := List.all_eq_true.mp h w hw
  rw [hp] at hw
  obtain ⟨i, -, hi⟩ := List.mem_filterMap.mp hw
  have hm : w ∈ big := by first | exact List.mem_of_getElem? hi | exact List.getElem?_mem hi
  exact ⟨hm, good_of_word h1⟩
theorem goodIn_app {big a b : List Cond} (ha : GoodIn big a) (hb : GoodIn big b) : GoodIn big (a ++ b) := fun w h => (List.mem_append.mp h).elim (ha w) (hb w)
theorem goodIn_ca {big a b : List Cond} {c : Cond} (ha : GoodIn big (c :: a)) (hb : GoodIn big b) : GoodIn big (c :: (a ++ b)) := fun w h => (List.mem_cons.mp h).elim (fun e => ha w (List.mem_cons.mpr (Or.inl e))) (fun h => (List.mem_append.mp h).elim (fun h => ha w (List.mem_cons.mpr (Or.inr h))) (hb w))
theorem goodIn_sub {big ws : List Cond} (hm : ∀ w ∈ ws, w ∈ big) (h : ws.all goodWord = true) : GoodIn big ws := fun w hw => ⟨hm w hw, good_of_word (List.all_eq_true.mp h w hw)⟩
/-! ===== END ===== -/

/-! ===== BEGIN printed: names, fields, word lists, decode rows ===== -/
def RX0 : String := "CaptureSegments$History"
def TX0 : u_T := fun k => match k with
  | 0 => ("CaptureSegments$History", "states", "[LCaptureSegments$Memory;", true)
  | 1 => ("CaptureSegments$History", "next", "I", false)
  | _ => ("CaptureSegments$History", "size", "I", false)
def tyX0 : Nat → FieldType := fun k => match k with
  | 0 => .array (.object "CaptureSegments$Memory")
  | 1 => .int
  | _ => .int
abbrev wsX00 : List Cond := u_ws RX0 TX0 3
theorem nmX0 : ∀ a, a < 3 → ∀ b, b < 3 → a ≠ b → (TX0 a).2.1 ≠ (TX0 b).2.1 := by decide +kernel
theorem tyX0_ok : ∀ k, k < 3 → parseFieldDescriptor (TX0 k).2.2.1 = some (tyX0 k) := by decide +kernel
abbrev cX0_init : ByteArray := prog_2_method_1_code
def yX0_init : MethodName := ⟨RX0, "<init>", "()V"⟩
abbrev cX0_record : ByteArray := prog_2_method_2_code
def yX0_record : MethodName := ⟨RX0, "record", "(LCaptureSegments$Memory;)V"⟩
abbrev cX0_bringBack : ByteArray := prog_2_method_3_code
def yX0_bringBack : MethodName := ⟨RX0, "bringBack", "(LCaptureSegments$Memory;)V"⟩
def RX1 : String := "CaptureSegments$Memory"
def TX1 : u_T := fun k => match k with
  | 0 => ("CaptureSegments$Memory", "settings", "[I", true)
  | 1 => ("CaptureSegments$Memory", "samples", "[I", true)
  | 2 => ("CaptureSegments$Memory", "segments", "LCaptureSegments$Segments;", true)
  | 3 => ("CaptureSegments$Memory", "samplesSoFar", "I", false)
  | 4 => ("CaptureSegments$Memory", "detector", "I", false)
  | 5 => ("CaptureSegments$Memory", "firings", "I", false)
  | 6 => ("CaptureSegments$Memory", "triggers", "I", false)
  | 7 => ("CaptureSegments$Memory", "ignored", "I", false)
  | 8 => ("CaptureSegments$Memory", "completed", "I", false)
  | 9 => ("CaptureSegments$Memory", "since", "I", false)
  | 10 => ("CaptureSegments$Memory", "capturedTrigger", "I", false)
  | 11 => ("CaptureSegments$Memory", "capturedDepth", "I", false)
  | 12 => ("CaptureSegments$Memory", "capturedPre", "I", false)
  | 13 => ("CaptureSegments$Memory", "capturedKind", "I", false)
  | _ => ("CaptureSegments$Memory", "yetToGet", "I", false)
def tyX1 : Nat → FieldType := fun k => match k with
  | 0 => .array .int
  | 1 => .array .int
  | 2 => .object "CaptureSegments$Segments"
  | 3 => .int
  | 4 => .int
  | 5 => .int
  | 6 => .int
  | 7 => .int
  | 8 => .int
  | 9 => .int
  | 10 => .int
  | 11 => .int
  | 12 => .int
  | 13 => .int
  | _ => .int
abbrev wsX10 : List Cond := u_ws RX1 TX1 15
theorem nmX1 : ∀ a, a < 15 → ∀ b, b < 15 → a ≠ b → (TX1 a).2.1 ≠ (TX1 b).2.1 := by decide +kernel
theorem tyX1_ok : ∀ k, k < 15 → parseFieldDescriptor (TX1 k).2.2.1 = some (tyX1 k) := by decide +kernel
abbrev cX1_init : ByteArray := prog_3_method_1_code
def yX1_init : MethodName := ⟨RX1, "<init>", "()V"⟩
abbrev cX1_takeOver : ByteArray := prog_3_method_2_code
def yX1_takeOver : MethodName := ⟨RX1, "takeOver", "(LCaptureSegments$Memory;)V"⟩
abbrev cX1_settingOf : ByteArray := prog_3_method_3_code
def yX1_settingOf : MethodName := ⟨RX1, "settingOf", "(I)I"⟩
abbrev cX1_errorOfSetting : ByteArray := prog_3_method_4_code
def yX1_errorOfSetting : MethodName := ⟨RX1, "errorOfSetting", "(II)I"⟩
abbrev cX1_fits : ByteArray := prog_3_method_5_code
def yX1_fits : MethodName := ⟨RX1, "fits", "(II)Z"⟩
abbrev cX1_changeSetting : ByteArray := prog_3_method_6_code
def yX1_changeSetting : MethodName := ⟨RX1, "changeSetting", "(II)I"⟩
abbrev cX1_errorOfSamples : ByteArray := prog_3_method_7_code
def yX1_errorOfSamples : MethodName := ⟨RX1, "errorOfSamples", "(II)I"⟩
abbrev cX1_takeSamples : ByteArray := prog_3_method_8_code
def yX1_takeSamples : MethodName := ⟨RX1, "takeSamples", "(II)I"⟩
abbrev cX1_takeSample : ByteArray := prog_3_method_9_code
def yX1_takeSample : MethodName := ⟨RX1, "takeSample", "(I)Z"⟩
abbrev cX1_detect : ByteArray := prog_3_method_10_code
def yX1_detect : MethodName := ⟨RX1, "detect", "(I)Z"⟩
abbrev cX1_detectorAfter : ByteArray := prog_3_method_11_code
def yX1_detectorAfter : MethodName := ⟨RX1, "detectorAfter", "(III)I"⟩
abbrev cX1_beginSegment : ByteArray := prog_3_method_12_code
def yX1_beginSegment : MethodName := ⟨RX1, "beginSegment", "()V"⟩
abbrev cX1_completeSegment : ByteArray := prog_3_method_13_code
def yX1_completeSegment : MethodName := ⟨RX1, "completeSegment", "()V"⟩
abbrev cX1_forget : ByteArray := prog_3_method_14_code
def yX1_forget : MethodName := ⟨RX1, "forget", "()I"⟩
abbrev cX1_phase : ByteArray := prog_3_method_15_code
def yX1_phase : MethodName := ⟨RX1, "phase", "()I"⟩
abbrev cX1_numberOf : ByteArray := prog_3_method_16_code
def yX1_numberOf : MethodName := ⟨RX1, "numberOf", "(I)I"⟩
abbrev cX1_sampleAt : ByteArray := prog_3_method_17_code
def yX1_sampleAt : MethodName := ⟨RX1, "sampleAt", "(I)I"⟩
abbrev cX1_leastOf : ByteArray := prog_3_method_18_code
def yX1_leastOf : MethodName := ⟨RX1, "leastOf", "(I)I"⟩
abbrev cX1_greatestOf : ByteArray := prog_3_method_19_code
def yX1_greatestOf : MethodName := ⟨RX1, "greatestOf", "(I)I"⟩
abbrev cX1_sumOf : ByteArray := prog_3_method_20_code
def yX1_sumOf : MethodName := ⟨RX1, "sumOf", "(I)I"⟩
abbrev cX1_upsOf : ByteArray := prog_3_method_21_code
def yX1_upsOf : MethodName := ⟨RX1, "upsOf", "(I)I"⟩
abbrev cX1_greatestLevel : ByteArray := prog_3_method_22_code
def yX1_greatestLevel : MethodName := ⟨RX1, "greatestLevel", "()I"⟩
abbrev cX1_firingsWith : ByteArray := prog_3_method_23_code
def yX1_firingsWith : MethodName := ⟨RX1, "firingsWith", "(I)I"⟩
abbrev cX1_differenceOf : ByteArray := prog_3_method_24_code
def yX1_differenceOf : MethodName := ⟨RX1, "differenceOf", "(II)I"⟩
def RX2 : String := "CaptureSegments$Pad"
def TX2 : u_T := fun k => match k with
  | 0 => ("CaptureSegments$Pad", "codes", "[I", true)
  | 1 => ("CaptureSegments$Pad", "length", "I", false)
  | 2 => ("CaptureSegments$Pad", "actions", "[I", true)
  | 3 => ("CaptureSegments$Pad", "values", "[I", true)
  | 4 => ("CaptureSegments$Pad", "times", "[I", true)
  | 5 => ("CaptureSegments$Pad", "ends", "[I", true)
  | 6 => ("CaptureSegments$Pad", "steps", "I", false)
  | 7 => ("CaptureSegments$Pad", "place", "I", false)
  | _ => ("CaptureSegments$Pad", "number", "I", false)
def tyX2 : Nat → FieldType := fun k => match k with
  | 0 => .array .int
  | 1 => .int
  | 2 => .array .int
  | 3 => .array .int
  | 4 => .array .int
  | 5 => .array .int
  | 6 => .int
  | 7 => .int
  | _ => .int
abbrev wsX20 : List Cond := u_ws RX2 TX2 9
theorem nmX2 : ∀ a, a < 9 → ∀ b, b < 9 → a ≠ b → (TX2 a).2.1 ≠ (TX2 b).2.1 := by decide +kernel
theorem tyX2_ok : ∀ k, k < 9 → parseFieldDescriptor (TX2 k).2.2.1 = some (tyX2 k) := by decide +kernel
abbrev cX2_init : ByteArray := prog_4_method_1_code
def yX2_init : MethodName := ⟨RX2, "<init>", "()V"⟩
abbrev cX2_numberOfCharacters : ByteArray := prog_4_method_2_code
def yX2_numberOfCharacters : MethodName := ⟨RX2, "numberOfCharacters", "(J)I"⟩
abbrev cX2_append : ByteArray := prog_4_method_3_code
def yX2_append : MethodName := ⟨RX2, "append", "(JI)V"⟩
abbrev cX2_endsOrder : ByteArray := prog_4_method_4_code
def yX2_endsOrder : MethodName := ⟨RX2, "endsOrder", "(I)Z"⟩
abbrev cX2_read : ByteArray := prog_4_method_5_code
def yX2_read : MethodName := ⟨RX2, "read", "()I"⟩
abbrev cX2_readOrder : ByteArray := prog_4_method_6_code
def yX2_readOrder : MethodName := ⟨RX2, "readOrder", "()Z"⟩
abbrev cX2_readKind : ByteArray := prog_4_method_7_code
def yX2_readKind : MethodName := ⟨RX2, "readKind", "()Z"⟩
abbrev cX2_readLevel : ByteArray := prog_4_method_8_code
def yX2_readLevel : MethodName := ⟨RX2, "readLevel", "()Z"⟩
abbrev cX2_readSample : ByteArray := prog_4_method_9_code
def yX2_readSample : MethodName := ⟨RX2, "readSample", "()Z"⟩
abbrev cX2_readValue : ByteArray := prog_4_method_10_code
def yX2_readValue : MethodName := ⟨RX2, "readValue", "()Z"⟩
abbrev cX2_readNumber : ByteArray := prog_4_method_11_code
def yX2_readNumber : MethodName := ⟨RX2, "readNumber", "()Z"⟩
abbrev cX2_isDigit : ByteArray := prog_4_method_12_code
def yX2_isDigit : MethodName := ⟨RX2, "isDigit", "(I)Z"⟩
abbrev cX2_code : ByteArray := prog_4_method_13_code
def yX2_code : MethodName := ⟨RX2, "code", "()I"⟩
abbrev cX2_addStep : ByteArray := prog_4_method_14_code
def yX2_addStep : MethodName := ⟨RX2, "addStep", "(III)V"⟩
def RX3 : String := "CaptureSegments$Segments"
def TX3 : u_T := fun k => match k with
  | 0 => ("CaptureSegments$Segments", "numbers", "[I", true)
  | _ => ("CaptureSegments$Segments", "size", "I", false)
def tyX3 : Nat → FieldType := fun k => match k with
  | 0 => .array .int
  | _ => .int
abbrev wsX30 : List Cond := u_ws RX3 TX3 2
theorem nmX3 : ∀ a, a < 2 → ∀ b, b < 2 → a ≠ b → (TX3 a).2.1 ≠ (TX3 b).2.1 := by decide +kernel
theorem tyX3_ok : ∀ k, k < 2 → parseFieldDescriptor (TX3 k).2.2.1 = some (tyX3 k) := by decide +kernel
abbrev cX3_init : ByteArray := prog_5_method_1_code
def yX3_init : MethodName := ⟨RX3, "<init>", "()V"⟩
abbrev cX3_has : ByteArray := prog_5_method_2_code
def yX3_has : MethodName := ⟨RX3, "has", "(I)Z"⟩
abbrev cX3_numberOf : ByteArray := prog_5_method_3_code
def yX3_numberOf : MethodName := ⟨RX3, "numberOf", "(II)I"⟩
abbrev cX3_firstOf : ByteArray := prog_5_method_4_code
def yX3_firstOf : MethodName := ⟨RX3, "firstOf", "(I)I"⟩
abbrev cX3_behindOf : ByteArray := prog_5_method_5_code
def yX3_behindOf : MethodName := ⟨RX3, "behindOf", "(I)I"⟩
abbrev cX3_append : ByteArray := prog_5_method_6_code
def yX3_append : MethodName := ⟨RX3, "append", "(IIII)V"⟩
abbrev cX3_removeAt : ByteArray := prog_5_method_7_code
def yX3_removeAt : MethodName := ⟨RX3, "removeAt", "(I)V"⟩
abbrev cX3_keepLatest : ByteArray := prog_5_method_8_code
def yX3_keepLatest : MethodName := ⟨RX3, "keepLatest", "(I)V"⟩
abbrev cX3_takeOver : ByteArray := prog_5_method_9_code
def yX3_takeOver : MethodName := ⟨RX3, "takeOver", "(LCaptureSegments$Segments;)V"⟩
def RX4 : String := "CaptureSegments$Slots"
def TX4 : u_T := fun k => match k with
  | 0 => ("CaptureSegments$Slots", "states", "[LCaptureSegments$Memory;", true)
  | _ => ("CaptureSegments$Slots", "saved", "[Z", true)
def tyX4 : Nat → FieldType := fun k => match k with
  | 0 => .array (.object "CaptureSegments$Memory")
  | _ => .array .boolean
abbrev wsX40 : List Cond := u_ws RX4 TX4 2
theorem nmX4 : ∀ a, a < 2 → ∀ b, b < 2 → a ≠ b → (TX4 a).2.1 ≠ (TX4 b).2.1 := by decide +kernel
theorem tyX4_ok : ∀ k, k < 2 → parseFieldDescriptor (TX4 k).2.2.1 = some (tyX4 k) := by decide +kernel
abbrev cX4_init : ByteArray := prog_6_method_1_code
def yX4_init : MethodName := ⟨RX4, "<init>", "()V"⟩
abbrev cX4_holds : ByteArray := prog_6_method_2_code
def yX4_holds : MethodName := ⟨RX4, "holds", "(I)Z"⟩
abbrev cX4_keep : ByteArray := prog_6_method_3_code
def yX4_keep : MethodName := ⟨RX4, "keep", "(ILCaptureSegments$Memory;)V"⟩
abbrev cX4_bringBack : ByteArray := prog_6_method_4_code
def yX4_bringBack : MethodName := ⟨RX4, "bringBack", "(ILCaptureSegments$Memory;)V"⟩
def RX5 : String := "CaptureSegments"
def TX5 : u_T := fun k => match k with
  | 0 => ("CaptureSegments", "memory", "LCaptureSegments$Memory;", true)
  | 1 => ("CaptureSegments", "history", "LCaptureSegments$History;", true)
  | 2 => ("CaptureSegments", "slots", "LCaptureSegments$Slots;", true)
  | _ => ("CaptureSegments", "pad", "LCaptureSegments$Pad;", true)
def tyX5 : Nat → FieldType := fun k => match k with
  | 0 => .object "CaptureSegments$Memory"
  | 1 => .object "CaptureSegments$History"
  | 2 => .object "CaptureSegments$Slots"
  | _ => .object "CaptureSegments$Pad"
abbrev wsX50 : List Cond := u_ws RX5 TX5 4
theorem nmX5 : ∀ a, a < 4 → ∀ b, b < 4 → a ≠ b → (TX5 a).2.1 ≠ (TX5 b).2.1 := by decide +kernel
theorem tyX5_ok : ∀ k, k < 4 → parseFieldDescriptor (TX5 k).2.2.1 = some (tyX5 k) := by decide +kernel
abbrev cX5_init : ByteArray := prog_1_method_1_code
def yX5_init : MethodName := ⟨RX5, "<init>", "()V"⟩
abbrev cX5_set : ByteArray := prog_1_method_2_code
def yX5_set : MethodName := ⟨RX5, "set", "(II)I"⟩
abbrev cX5_feed : ByteArray := prog_1_method_3_code
def yX5_feed : MethodName := ⟨RX5, "feed", "(II)I"⟩
abbrev cX5_clear : ByteArray := prog_1_method_4_code
def yX5_clear : MethodName := ⟨RX5, "clear", "()I"⟩
abbrev cX5_drop : ByteArray := prog_1_method_5_code
def yX5_drop : MethodName := ⟨RX5, "drop", "(I)I"⟩
abbrev cX5_segment : ByteArray := prog_1_method_6_code
def yX5_segment : MethodName := ⟨RX5, "segment", "(II)I"⟩
abbrev cX5_sampleOf : ByteArray := prog_1_method_7_code
def yX5_sampleOf : MethodName := ⟨RX5, "sampleOf", "(II)I"⟩
abbrev cX5_sample : ByteArray := prog_1_method_8_code
def yX5_sample : MethodName := ⟨RX5, "sample", "(I)I"⟩
abbrev cX5_count : ByteArray := prog_1_method_9_code
def yX5_count : MethodName := ⟨RX5, "count", "(I)I"⟩
abbrev cX5_fires : ByteArray := prog_1_method_10_code
def yX5_fires : MethodName := ⟨RX5, "fires", "(I)I"⟩
abbrev cX5_bestLevel : ByteArray := prog_1_method_11_code
def yX5_bestLevel : MethodName := ⟨RX5, "bestLevel", "(I)I"⟩
abbrev cX5_unlike : ByteArray := prog_1_method_12_code
def yX5_unlike : MethodName := ⟨RX5, "unlike", "(II)I"⟩
abbrev cX5_nearest : ByteArray := prog_1_method_13_code
def yX5_nearest : MethodName := ⟨RX5, "nearest", "(I)I"⟩
abbrev cX5_put : ByteArray := prog_1_method_14_code
def yX5_put : MethodName := ⟨RX5, "put", "(J)I"⟩
abbrev cX5_wipe : ByteArray := prog_1_method_15_code
def yX5_wipe : MethodName := ⟨RX5, "wipe", "()I"⟩
abbrev cX5_fault : ByteArray := prog_1_method_16_code
def yX5_fault : MethodName := ⟨RX5, "fault", "()I"⟩
abbrev cX5_carryOut : ByteArray := prog_1_method_17_code
def yX5_carryOut : MethodName := ⟨RX5, "carryOut", "()I"⟩
abbrev cX5_carryOutStep : ByteArray := prog_1_method_18_code
def yX5_carryOutStep : MethodName := ⟨RX5, "carryOutStep", "(I)I"⟩
abbrev cX5_undo : ByteArray := prog_1_method_19_code
def yX5_undo : MethodName := ⟨RX5, "undo", "()I"⟩
abbrev cX5_save : ByteArray := prog_1_method_20_code
def yX5_save : MethodName := ⟨RX5, "save", "(I)I"⟩
abbrev cX5_restore : ByteArray := prog_1_method_21_code
def yX5_restore : MethodName := ⟨RX5, "restore", "(I)I"⟩
abbrev cX5_at : ByteArray := prog_1_method_22_code
def yX5_at : MethodName := ⟨RX5, "at", "([II)I"⟩
abbrev cX5_writeAt : ByteArray := prog_1_method_23_code
def yX5_writeAt : MethodName := ⟨RX5, "writeAt", "([III)V"⟩
abbrev cX5_copyRow : ByteArray := prog_1_method_24_code
def yX5_copyRow : MethodName := ⟨RX5, "copyRow", "([I[I)V"⟩
abbrev cX5_memoryAt : ByteArray := prog_1_method_25_code
def yX5_memoryAt : MethodName := ⟨RX5, "memoryAt", "([LCaptureSegments$Memory;I)LCaptureSegments$Memory;"⟩
def RX6 : String := "CaptureSegmentsModel"
def TX6 : u_T := fun k => match k with
  | 0 => ("CaptureSegmentsModel", "all", "[I", true)
  | 1 => ("CaptureSegmentsModel", "kept", "[I", true)
  | 2 => ("CaptureSegmentsModel", "history", "[I", true)
  | 3 => ("CaptureSegmentsModel", "historyLong", "I", false)
  | 4 => ("CaptureSegmentsModel", "slots", "[I", true)
  | 5 => ("CaptureSegmentsModel", "isSaved", "[I", true)
  | 6 => ("CaptureSegmentsModel", "then", "I", false)
  | 7 => ("CaptureSegmentsModel", "pad", "[I", true)
  | 8 => ("CaptureSegmentsModel", "padLong", "I", false)
  | 9 => ("CaptureSegmentsModel", "spot", "I", false)
  | 10 => ("CaptureSegmentsModel", "number", "I", false)
  | 11 => ("CaptureSegmentsModel", "isDone", "Z", false)
  | _ => ("CaptureSegmentsModel", "error", "I", false)
def tyX6 : Nat → FieldType := fun k => match k with
  | 0 => .array .int
  | 1 => .array .int
  | 2 => .array .int
  | 3 => .int
  | 4 => .array .int
  | 5 => .array .int
  | 6 => .int
  | 7 => .array .int
  | 8 => .int
  | 9 => .int
  | 10 => .int
  | 11 => .boolean
  | _ => .int
abbrev wsX60 : List Cond := u_ws RX6 TX6 13
theorem nmX6 : ∀ a, a < 13 → ∀ b, b < 13 → a ≠ b → (TX6 a).2.1 ≠ (TX6 b).2.1 := by decide +kernel
theorem tyX6_ok : ∀ k, k < 13 → parseFieldDescriptor (TX6 k).2.2.1 = some (tyX6 k) := by decide +kernel
abbrev cX6_init : ByteArray := prog_8_method_1_code
def yX6_init : MethodName := ⟨RX6, "<init>", "()V"⟩
abbrev cX6_in : ByteArray := prog_8_method_3_code
def yX6_in : MethodName := ⟨RX6, "in", "(JJJ)Z"⟩
abbrev cX6_keep : ByteArray := prog_8_method_4_code
def yX6_keep : MethodName := ⟨RX6, "keep", "()V"⟩
abbrev cX6_changed : ByteArray := prog_8_method_5_code
def yX6_changed : MethodName := ⟨RX6, "changed", "(I)I"⟩
abbrev cX6_isFiring : ByteArray := prog_8_method_6_code
def yX6_isFiring : MethodName := ⟨RX6, "isFiring", "(IIII)Z"⟩
abbrev cX6_firings : ByteArray := prog_8_method_7_code
def yX6_firings : MethodName := ⟨RX6, "firings", "(I)I"⟩
abbrev cX6_hasRoom : ByteArray := prog_8_method_8_code
def yX6_hasRoom : MethodName := ⟨RX6, "hasRoom", "()Z"⟩
abbrev cX6_isLongEnough : ByteArray := prog_8_method_9_code
def yX6_isLongEnough : MethodName := ⟨RX6, "isLongEnough", "()Z"⟩
abbrev cX6_takesOut : ByteArray := prog_8_method_10_code
def yX6_takesOut : MethodName := ⟨RX6, "takesOut", "(I)V"⟩
abbrev cX6_dropsOldest : ByteArray := prog_8_method_11_code
def yX6_dropsOldest : MethodName := ⟨RX6, "dropsOldest", "(I)V"⟩
abbrev cX6_captures : ByteArray := prog_8_method_12_code
def yX6_captures : MethodName := ⟨RX6, "captures", "()V"⟩
abbrev cX6_lacking : ByteArray := prog_8_method_13_code
def yX6_lacking : MethodName := ⟨RX6, "lacking", "()I"⟩
abbrev cX6_completes : ByteArray := prog_8_method_14_code
def yX6_completes : MethodName := ⟨RX6, "completes", "()V"⟩
abbrev cX6_comes : ByteArray := prog_8_method_15_code
def yX6_comes : MethodName := ⟨RX6, "comes", "(I)V"⟩
abbrev cX6_isSample : ByteArray := prog_8_method_16_code
def yX6_isSample : MethodName := ⟨RX6, "isSample", "(I)Z"⟩
abbrev cX6_doFeed : ByteArray := prog_8_method_17_code
def yX6_doFeed : MethodName := ⟨RX6, "doFeed", "(II)I"⟩
abbrev cX6_isSetting : ByteArray := prog_8_method_18_code
def yX6_isSetting : MethodName := ⟨RX6, "isSetting", "(II)Z"⟩
abbrev cX6_doSet : ByteArray := prog_8_method_19_code
def yX6_doSet : MethodName := ⟨RX6, "doSet", "(II)I"⟩
abbrev cX6_doClear : ByteArray := prog_8_method_20_code
def yX6_doClear : MethodName := ⟨RX6, "doClear", "()I"⟩
abbrev cX6_set : ByteArray := prog_8_method_21_code
def yX6_set : MethodName := ⟨RX6, "set", "(II)I"⟩
abbrev cX6_feed : ByteArray := prog_8_method_22_code
def yX6_feed : MethodName := ⟨RX6, "feed", "(II)I"⟩
abbrev cX6_clear : ByteArray := prog_8_method_23_code
def yX6_clear : MethodName := ⟨RX6, "clear", "()I"⟩
abbrev cX6_isSegment : ByteArray := prog_8_method_24_code
def yX6_isSegment : MethodName := ⟨RX6, "isSegment", "(I)Z"⟩
abbrev cX6_drop : ByteArray := prog_8_method_25_code
def yX6_drop : MethodName := ⟨RX6, "drop", "(I)I"⟩
abbrev cX6_of : ByteArray := prog_8_method_26_code
def yX6_of : MethodName := ⟨RX6, "of", "(II)I"⟩
abbrev cX6_numberOf : ByteArray := prog_8_method_27_code
def yX6_numberOf : MethodName := ⟨RX6, "numberOf", "(II)I"⟩
abbrev cX6_sampleAt : ByteArray := prog_8_method_28_code
def yX6_sampleAt : MethodName := ⟨RX6, "sampleAt", "(II)I"⟩
abbrev cX6_least : ByteArray := prog_8_method_29_code
def yX6_least : MethodName := ⟨RX6, "least", "(I)I"⟩
abbrev cX6_greatest : ByteArray := prog_8_method_30_code
def yX6_greatest : MethodName := ⟨RX6, "greatest", "(I)I"⟩
abbrev cX6_sumOf : ByteArray := prog_8_method_31_code
def yX6_sumOf : MethodName := ⟨RX6, "sumOf", "(I)I"⟩
abbrev cX6_risesIn : ByteArray := prog_8_method_32_code
def yX6_risesIn : MethodName := ⟨RX6, "risesIn", "(I)I"⟩
abbrev cX6_segment : ByteArray := prog_8_method_33_code
def yX6_segment : MethodName := ⟨RX6, "segment", "(II)I"⟩
abbrev cX6_sampleOf : ByteArray := prog_8_method_34_code
def yX6_sampleOf : MethodName := ⟨RX6, "sampleOf", "(II)I"⟩
abbrev cX6_sample : ByteArray := prog_8_method_35_code
def yX6_sample : MethodName := ⟨RX6, "sample", "(I)I"⟩
abbrev cX6_phase : ByteArray := prog_8_method_36_code
def yX6_phase : MethodName := ⟨RX6, "phase", "()I"⟩
abbrev cX6_count : ByteArray := prog_8_method_37_code
def yX6_count : MethodName := ⟨RX6, "count", "(I)I"⟩
abbrev cX6_isLevel : ByteArray := prog_8_method_38_code
def yX6_isLevel : MethodName := ⟨RX6, "isLevel", "(I)Z"⟩
abbrev cX6_fires : ByteArray := prog_8_method_39_code
def yX6_fires : MethodName := ⟨RX6, "fires", "(I)I"⟩
abbrev cX6_bestLevel : ByteArray := prog_8_method_40_code
def yX6_bestLevel : MethodName := ⟨RX6, "bestLevel", "(I)I"⟩
abbrev cX6_unlikeOf : ByteArray := prog_8_method_41_code
def yX6_unlikeOf : MethodName := ⟨RX6, "unlikeOf", "(II)I"⟩
abbrev cX6_unlike : ByteArray := prog_8_method_42_code
def yX6_unlike : MethodName := ⟨RX6, "unlike", "(II)I"⟩
abbrev cX6_nearest : ByteArray := prog_8_method_43_code
def yX6_nearest : MethodName := ⟨RX6, "nearest", "(I)I"⟩
abbrev cX6_put : ByteArray := prog_8_method_44_code
def yX6_put : MethodName := ⟨RX6, "put", "(J)I"⟩
abbrev cX6_wipe : ByteArray := prog_8_method_45_code
def yX6_wipe : MethodName := ⟨RX6, "wipe", "()I"⟩
abbrev cX6_isHere : ByteArray := prog_8_method_46_code
def yX6_isHere : MethodName := ⟨RX6, "isHere", "(II)Z"⟩
abbrev cX6_takes : ByteArray := prog_8_method_47_code
def yX6_takes : MethodName := ⟨RX6, "takes", "(I)Z"⟩
abbrev cX6_readsNumber : ByteArray := prog_8_method_48_code
def yX6_readsNumber : MethodName := ⟨RX6, "readsNumber", "()Z"⟩
abbrev cX6_readsValue : ByteArray := prog_8_method_49_code
def yX6_readsValue : MethodName := ⟨RX6, "readsValue", "()Z"⟩
abbrev cX6_does : ByteArray := prog_8_method_50_code
def yX6_does : MethodName := ⟨RX6, "does", "(I)V"⟩
abbrev cX6_readsSamples : ByteArray := prog_8_method_51_code
def yX6_readsSamples : MethodName := ⟨RX6, "readsSamples", "()Z"⟩
abbrev cX6_readsOrder : ByteArray := prog_8_method_52_code
def yX6_readsOrder : MethodName := ⟨RX6, "readsOrder", "()Z"⟩
abbrev cX6_fault : ByteArray := prog_8_method_53_code
def yX6_fault : MethodName := ⟨RX6, "fault", "()I"⟩
abbrev cX6_carryOut : ByteArray := prog_8_method_54_code
def yX6_carryOut : MethodName := ⟨RX6, "carryOut", "()I"⟩
abbrev cX6_undo : ByteArray := prog_8_method_55_code
def yX6_undo : MethodName := ⟨RX6, "undo", "()I"⟩
abbrev cX6_save : ByteArray := prog_8_method_56_code
def yX6_save : MethodName := ⟨RX6, "save", "(I)I"⟩
abbrev cX6_restore : ByteArray := prog_8_method_57_code
def yX6_restore : MethodName := ⟨RX6, "restore", "(I)I"⟩
def RJ9 : String := "java/lang/Math"
def TJ9 : u_T := fun k => match k with
  | _ => ("", "", "", false)
def tyJ9 : Nat → FieldType := fun k => match k with
  | _ => .int
abbrev wsJ90 : List Cond := u_ws RJ9 TJ9 0
theorem nmJ9 : ∀ a, a < 0 → ∀ b, b < 0 → a ≠ b → (TJ9 a).2.1 ≠ (TJ9 b).2.1 := by decide +kernel
theorem tyJ9_ok : ∀ k, k < 0 → parseFieldDescriptor (TJ9 k).2.2.1 = some (tyJ9 k) := by decide +kernel
abbrev cJ9_abs_0f7a4 : ByteArray := prog_9_method_59_code
def yJ9_abs_0f7a4 : MethodName := ⟨RJ9, "abs", "(I)I"⟩
abbrev cJ9_max_7cf53 : ByteArray := prog_9_method_65_code
def yJ9_max_7cf53 : MethodName := ⟨RJ9, "max", "(II)I"⟩
abbrev cJ9_min_7cf53 : ByteArray := prog_9_method_69_code
def yJ9_min_7cf53 : MethodName := ⟨RJ9, "min", "(II)I"⟩
def RJ10 : String := "java/lang/System"
def TJ10 : u_T := fun k => match k with
  | _ => ("", "", "", false)
def tyJ10 : Nat → FieldType := fun k => match k with
  | _ => .int
abbrev wsJ100 : List Cond := u_ws RJ10 TJ10 0
theorem nmJ10 : ∀ a, a < 0 → ∀ b, b < 0 → a ≠ b → (TJ10 a).2.1 ≠ (TJ10 b).2.1 := by decide +kernel
theorem tyJ10_ok : ∀ k, k < 0 → parseFieldDescriptor (TJ10 k).2.2.1 = some (tyJ10 k) := by decide +kernel
def RL : String := "CaptureSegmentsLaw"
abbrev cL_law : ByteArray := code
def yL_law : MethodName := ⟨RL, "law", "([I)Z"⟩
/-- the objects of CaptureSegments$History, kind 0: what each holds, by its address -/
abbrev vwCl : List vw_C := [(RX0, TX0, 3), (RX1, TX1, 15), (RX2, TX2, 9), (RX3, TX3, 2), (RX4, TX4, 2), (RX5, TX5, 4), (RX6, TX6, 13)]
