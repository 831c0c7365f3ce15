section
-- ===== PART A: goes FIRST, ahead of the names: the tables' words, and 'selects' of the private methods out of them =====
/-- a private method of a class that the tables say can be made, by its rows of tables_1 -/
def lw_okq (q : MethodName × Nat) : Prop := (q.1.cls ≠ "java/lang/invoke/MethodHandle" ∧ q.1.cls ≠ "java/lang/invoke/VarHandle") ∧ Cond.instantiable q.1.cls q.2 ∈ tables_1 ∧ Cond.privateMethod q.1 ∈ tables_1 ∧ Cond.instanceMethod q.1 ∈ tables_1
theorem lw_p0 : lw_okq (⟨"ArraySegments", "programChanged", "()V"⟩, 4) := ⟨⟨by decide +kernel, by decide +kernel⟩, List.mem_of_getElem? (i := 12) (by decide +kernel), List.mem_of_getElem? (i := 206) (by decide +kernel), List.mem_of_getElem? (i := 207) (by decide +kernel)⟩
theorem lw_p1 : lw_okq (⟨"ArraySegments$Flow", "pass", "(LArraySegments$Program;I)I"⟩, 8) := ⟨⟨by decide +kernel, by decide +kernel⟩, List.mem_of_getElem? (i := 43) (by decide +kernel), List.mem_of_getElem? (i := 276) (by decide +kernel), List.mem_of_getElem? (i := 277) (by decide +kernel)⟩
theorem lw_p2 : lw_okq (⟨"ArraySegments$Flow", "passNew", "(IIII)I"⟩, 8) := ⟨⟨by decide +kernel, by decide +kernel⟩, List.mem_of_getElem? (i := 43) (by decide +kernel), List.mem_of_getElem? (i := 305) (by decide +kernel), List.mem_of_getElem? (i := 306) (by decide +kernel)⟩
theorem lw_p3 : lw_okq (⟨"ArraySegments$Flow", "passClone", "(III)I"⟩, 8) := ⟨⟨by decide +kernel, by decide +kernel⟩, List.mem_of_getElem? (i := 43) (by decide +kernel), List.mem_of_getElem? (i := 335) (by decide +kernel), List.mem_of_getElem? (i := 336) (by decide +kernel)⟩
theorem lw_p4 : lw_okq (⟨"ArraySegments$Flow", "nullBit", "(I)I"⟩, 8) := ⟨⟨by decide +kernel, by decide +kernel⟩, List.mem_of_getElem? (i := 43) (by decide +kernel), List.mem_of_getElem? (i := 339) (by decide +kernel), List.mem_of_getElem? (i := 340) (by decide +kernel)⟩
theorem lw_p5 : lw_okq (⟨"ArraySegments$Flow", "passWrite", "(IIII)I"⟩, 8) := ⟨⟨by decide +kernel, by decide +kernel⟩, List.mem_of_getElem? (i := 43) (by decide +kernel), List.mem_of_getElem? (i := 355) (by decide +kernel), List.mem_of_getElem? (i := 356) (by decide +kernel)⟩
theorem lw_p6 : lw_okq (⟨"ArraySegments$Flow", "mayMiss", "(II)Z"⟩, 8) := ⟨⟨by decide +kernel, by decide +kernel⟩, List.mem_of_getElem? (i := 43) (by decide +kernel), List.mem_of_getElem? (i := 359) (by decide +kernel), List.mem_of_getElem? (i := 360) (by decide +kernel)⟩
theorem lw_p7 : lw_okq (⟨"ArraySegments$Flow", "useThrows", "(IIZ)I"⟩, 8) := ⟨⟨by decide +kernel, by decide +kernel⟩, List.mem_of_getElem? (i := 43) (by decide +kernel), List.mem_of_getElem? (i := 368) (by decide +kernel), List.mem_of_getElem? (i := 369) (by decide +kernel)⟩
theorem lw_p8 : lw_okq (⟨"ArraySegments$Flow", "narrowPlace", "(III)V"⟩, 8) := ⟨⟨by decide +kernel, by decide +kernel⟩, List.mem_of_getElem? (i := 43) (by decide +kernel), List.mem_of_getElem? (i := 376) (by decide +kernel), List.mem_of_getElem? (i := 377) (by decide +kernel)⟩
theorem lw_p9 : lw_okq (⟨"ArraySegments$Flow", "passRead", "(IIII)I"⟩, 8) := ⟨⟨by decide +kernel, by decide +kernel⟩, List.mem_of_getElem? (i := 43) (by decide +kernel), List.mem_of_getElem? (i := 423) (by decide +kernel), List.mem_of_getElem? (i := 424) (by decide +kernel)⟩
theorem lw_p10 : lw_okq (⟨"ArraySegments$Flow", "gather", "(JIJ)V"⟩, 8) := ⟨⟨by decide +kernel, by decide +kernel⟩, List.mem_of_getElem? (i := 43) (by decide +kernel), List.mem_of_getElem? (i := 427) (by decide +kernel), List.mem_of_getElem? (i := 428) (by decide +kernel)⟩
theorem lw_p11 : lw_okq (⟨"ArraySegments$Flow", "passCopy", "(IIIII)I"⟩, 8) := ⟨⟨by decide +kernel, by decide +kernel⟩, List.mem_of_getElem? (i := 43) (by decide +kernel), List.mem_of_getElem? (i := 433) (by decide +kernel), List.mem_of_getElem? (i := 434) (by decide +kernel)⟩
theorem lw_p12 : lw_okq (⟨"ArraySegments$Flow", "copyThrows", "(IIIII)I"⟩, 8) := ⟨⟨by decide +kernel, by decide +kernel⟩, List.mem_of_getElem? (i := 43) (by decide +kernel), List.mem_of_getElem? (i := 437) (by decide +kernel), List.mem_of_getElem? (i := 438) (by decide +kernel)⟩
theorem lw_p13 : lw_okq (⟨"ArraySegments$Flow", "joinCopy", "(IIIII)V"⟩, 8) := ⟨⟨by decide +kernel, by decide +kernel⟩, List.mem_of_getElem? (i := 43) (by decide +kernel), List.mem_of_getElem? (i := 455) (by decide +kernel), List.mem_of_getElem? (i := 456) (by decide +kernel)⟩
theorem lw_p14 : lw_okq (⟨"ArraySegments$Flow", "passFill", "(IIIII)I"⟩, 8) := ⟨⟨by decide +kernel, by decide +kernel⟩, List.mem_of_getElem? (i := 43) (by decide +kernel), List.mem_of_getElem? (i := 459) (by decide +kernel), List.mem_of_getElem? (i := 460) (by decide +kernel)⟩
theorem lw_p15 : lw_okq (⟨"ArraySegments$Flow", "passLength", "(II)I"⟩, 8) := ⟨⟨by decide +kernel, by decide +kernel⟩, List.mem_of_getElem? (i := 43) (by decide +kernel), List.mem_of_getElem? (i := 463) (by decide +kernel), List.mem_of_getElem? (i := 464) (by decide +kernel)⟩
def lw_privs_1 : List (MethodName × Nat) := [(⟨"ArraySegments", "programChanged", "()V"⟩, 4), (⟨"ArraySegments$Flow", "pass", "(LArraySegments$Program;I)I"⟩, 8), (⟨"ArraySegments$Flow", "passNew", "(IIII)I"⟩, 8), (⟨"ArraySegments$Flow", "passClone", "(III)I"⟩, 8), (⟨"ArraySegments$Flow", "nullBit", "(I)I"⟩, 8), (⟨"ArraySegments$Flow", "passWrite", "(IIII)I"⟩, 8), (⟨"ArraySegments$Flow", "mayMiss", "(II)Z"⟩, 8), (⟨"ArraySegments$Flow", "useThrows", "(IIZ)I"⟩, 8), (⟨"ArraySegments$Flow", "narrowPlace", "(III)V"⟩, 8), (⟨"ArraySegments$Flow", "passRead", "(IIII)I"⟩, 8), (⟨"ArraySegments$Flow", "gather", "(JIJ)V"⟩, 8), (⟨"ArraySegments$Flow", "passCopy", "(IIIII)I"⟩, 8), (⟨"ArraySegments$Flow", "copyThrows", "(IIIII)I"⟩, 8), (⟨"ArraySegments$Flow", "joinCopy", "(IIIII)V"⟩, 8), (⟨"ArraySegments$Flow", "passFill", "(IIIII)I"⟩, 8), (⟨"ArraySegments$Flow", "passLength", "(II)I"⟩, 8)]
theorem lw_r1 : ∀ q ∈ lw_privs_1, lw_okq q := List.forall_mem_cons.mpr ⟨lw_p0, List.forall_mem_cons.mpr ⟨lw_p1, List.forall_mem_cons.mpr ⟨lw_p2, List.forall_mem_cons.mpr ⟨lw_p3, List.forall_mem_cons.mpr ⟨lw_p4, List.forall_mem_cons.mpr ⟨lw_p5, List.forall_mem_cons.mpr ⟨lw_p6, List.forall_mem_cons.mpr ⟨lw_p7, List.forall_mem_cons.mpr ⟨lw_p8, List.forall_mem_cons.mpr ⟨lw_p9, List.forall_mem_cons.mpr ⟨lw_p10, List.forall_mem_cons.mpr ⟨lw_p11, List.forall_mem_cons.mpr ⟨lw_p12, List.forall_mem_cons.mpr ⟨lw_p13, List.forall_mem_cons.mpr ⟨lw_p14, List.forall_mem_cons.mpr ⟨lw_p15, fun _ h => absurd h List.not_mem_nil⟩⟩⟩⟩⟩⟩⟩⟩⟩⟩⟩⟩⟩⟩⟩⟩
theorem lw_p16 : lw_okq (⟨"ArraySegments", "refuse", "(I)I"⟩, 4) := ⟨⟨by decide +kernel, by decide +kernel⟩, List.mem_of_getElem? (i := 12) (by decide +kernel), List.mem_of_getElem? (i := 486) (by decide +kernel), List.mem_of_getElem? (i := 487) (by decide +kernel)⟩
theorem lw_p17 : lw_okq (⟨"ArraySegments", "tell", "(I)I"⟩, 4) := ⟨⟨by decide +kernel, by decide +kernel⟩, List.mem_of_getElem? (i := 12) (by decide +kernel), List.mem_of_getElem? (i := 490) (by decide +kernel), List.mem_of_getElem? (i := 491) (by decide +kernel)⟩
theorem lw_p18 : lw_okq (⟨"ArraySegments$Machine", "drawIsEven", "()Z"⟩, 9) := ⟨⟨by decide +kernel, by decide +kernel⟩, List.mem_of_getElem? (i := 139) (by decide +kernel), List.mem_of_getElem? (i := 551) (by decide +kernel), List.mem_of_getElem? (i := 552) (by decide +kernel)⟩
theorem lw_p19 : lw_okq (⟨"ArraySegments$Machine", "draw", "()J"⟩, 9) := ⟨⟨by decide +kernel, by decide +kernel⟩, List.mem_of_getElem? (i := 139) (by decide +kernel), List.mem_of_getElem? (i := 555) (by decide +kernel), List.mem_of_getElem? (i := 556) (by decide +kernel)⟩
theorem lw_p20 : lw_okq (⟨"ArraySegments$Machine", "doAct", "(LArraySegments$Program;I)I"⟩, 9) := ⟨⟨by decide +kernel, by decide +kernel⟩, List.mem_of_getElem? (i := 139) (by decide +kernel), List.mem_of_getElem? (i := 562) (by decide +kernel), List.mem_of_getElem? (i := 563) (by decide +kernel)⟩
theorem lw_p21 : lw_okq (⟨"ArraySegments$Machine", "drawFrom", "(II)I"⟩, 9) := ⟨⟨by decide +kernel, by decide +kernel⟩, List.mem_of_getElem? (i := 139) (by decide +kernel), List.mem_of_getElem? (i := 570) (by decide +kernel), List.mem_of_getElem? (i := 571) (by decide +kernel)⟩
theorem lw_p22 : lw_okq (⟨"ArraySegments$Machine", "doNew", "(IIII)I"⟩, 9) := ⟨⟨by decide +kernel, by decide +kernel⟩, List.mem_of_getElem? (i := 139) (by decide +kernel), List.mem_of_getElem? (i := 574) (by decide +kernel), List.mem_of_getElem? (i := 575) (by decide +kernel)⟩
theorem lw_p23 : lw_okq (⟨"ArraySegments$Machine", "doClone", "(III)I"⟩, 9) := ⟨⟨by decide +kernel, by decide +kernel⟩, List.mem_of_getElem? (i := 139) (by decide +kernel), List.mem_of_getElem? (i := 578) (by decide +kernel), List.mem_of_getElem? (i := 579) (by decide +kernel)⟩
theorem lw_p24 : lw_okq (⟨"ArraySegments$Machine", "doWrite", "(IIII)I"⟩, 9) := ⟨⟨by decide +kernel, by decide +kernel⟩, List.mem_of_getElem? (i := 139) (by decide +kernel), List.mem_of_getElem? (i := 583) (by decide +kernel), List.mem_of_getElem? (i := 584) (by decide +kernel)⟩
theorem lw_p25 : lw_okq (⟨"ArraySegments$Machine", "placeProblem", "(III)I"⟩, 9) := ⟨⟨by decide +kernel, by decide +kernel⟩, List.mem_of_getElem? (i := 139) (by decide +kernel), List.mem_of_getElem? (i := 587) (by decide +kernel), List.mem_of_getElem? (i := 588) (by decide +kernel)⟩
theorem lw_p26 : lw_okq (⟨"ArraySegments$Machine", "doRead", "(IIII)I"⟩, 9) := ⟨⟨by decide +kernel, by decide +kernel⟩, List.mem_of_getElem? (i := 139) (by decide +kernel), List.mem_of_getElem? (i := 594) (by decide +kernel), List.mem_of_getElem? (i := 595) (by decide +kernel)⟩
theorem lw_p27 : lw_okq (⟨"ArraySegments$Machine", "doCopy", "(IIIII)I"⟩, 9) := ⟨⟨by decide +kernel, by decide +kernel⟩, List.mem_of_getElem? (i := 139) (by decide +kernel), List.mem_of_getElem? (i := 598) (by decide +kernel), List.mem_of_getElem? (i := 599) (by decide +kernel)⟩
theorem lw_p28 : lw_okq (⟨"ArraySegments$Machine", "doFill", "(IIIII)I"⟩, 9) := ⟨⟨by decide +kernel, by decide +kernel⟩, List.mem_of_getElem? (i := 139) (by decide +kernel), List.mem_of_getElem? (i := 602) (by decide +kernel), List.mem_of_getElem? (i := 603) (by decide +kernel)⟩
theorem lw_p29 : lw_okq (⟨"ArraySegments$Machine", "doLength", "(II)I"⟩, 9) := ⟨⟨by decide +kernel, by decide +kernel⟩, List.mem_of_getElem? (i := 139) (by decide +kernel), List.mem_of_getElem? (i := 606) (by decide +kernel), List.mem_of_getElem? (i := 607) (by decide +kernel)⟩
theorem lw_p30 : lw_okq (⟨"ArraySegments", "endHolds", "()Z"⟩, 4) := ⟨⟨by decide +kernel, by decide +kernel⟩, List.mem_of_getElem? (i := 12) (by decide +kernel), List.mem_of_getElem? (i := 635) (by decide +kernel), List.mem_of_getElem? (i := 636) (by decide +kernel)⟩
theorem lw_p31 : lw_okq (⟨"ArraySegments", "referenceHolds", "(I)Z"⟩, 4) := ⟨⟨by decide +kernel, by decide +kernel⟩, List.mem_of_getElem? (i := 12) (by decide +kernel), List.mem_of_getElem? (i := 639) (by decide +kernel), List.mem_of_getElem? (i := 640) (by decide +kernel)⟩
def lw_privs_2 : List (MethodName × Nat) := [(⟨"ArraySegments", "refuse", "(I)I"⟩, 4), (⟨"ArraySegments", "tell", "(I)I"⟩, 4), (⟨"ArraySegments$Machine", "drawIsEven", "()Z"⟩, 9), (⟨"ArraySegments$Machine", "draw", "()J"⟩, 9), (⟨"ArraySegments$Machine", "doAct", "(LArraySegments$Program;I)I"⟩, 9), (⟨"ArraySegments$Machine", "drawFrom", "(II)I"⟩, 9), (⟨"ArraySegments$Machine", "doNew", "(IIII)I"⟩, 9), (⟨"ArraySegments$Machine", "doClone", "(III)I"⟩, 9), (⟨"ArraySegments$Machine", "doWrite", "(IIII)I"⟩, 9), (⟨"ArraySegments$Machine", "placeProblem", "(III)I"⟩, 9), (⟨"ArraySegments$Machine", "doRead", "(IIII)I"⟩, 9), (⟨"ArraySegments$Machine", "doCopy", "(IIIII)I"⟩, 9), (⟨"ArraySegments$Machine", "doFill", "(IIIII)I"⟩, 9), (⟨"ArraySegments$Machine", "doLength", "(II)I"⟩, 9), (⟨"ArraySegments", "endHolds", "()Z"⟩, 4), (⟨"ArraySegments", "referenceHolds", "(I)Z"⟩, 4)]
theorem lw_r2 : ∀ q ∈ lw_privs_2, lw_okq q := List.forall_mem_cons.mpr ⟨lw_p16, List.forall_mem_cons.mpr ⟨lw_p17, List.forall_mem_cons.mpr ⟨lw_p18, List.forall_mem_cons.mpr ⟨lw_p19, List.forall_mem_cons.mpr ⟨lw_p20, List.forall_mem_cons.mpr ⟨lw_p21, List.forall_mem_cons.mpr ⟨lw_p22, List.forall_mem_cons.mpr ⟨lw_p23, List.forall_mem_cons.mpr ⟨lw_p24, List.forall_mem_cons.mpr ⟨lw_p25, List.forall_mem_cons.mpr ⟨lw_p26, List.forall_mem_cons.mpr ⟨lw_p27, List.forall_mem_cons.mpr ⟨lw_p28, List.forall_mem_cons.mpr ⟨lw_p29, List.forall_mem_cons.mpr ⟨lw_p30, List.forall_mem_cons.mpr ⟨lw_p31, fun _ h => absurd h List.not_mem_nil⟩⟩⟩⟩⟩⟩⟩⟩⟩⟩⟩⟩⟩⟩⟩⟩
theorem lw_p32 : lw_okq (⟨"ArraySegments", "arrayHolds", "(I)Z"⟩, 4) := ⟨⟨by decide +kernel, by decide +kernel⟩, List.mem_of_getElem? (i := 12) (by decide +kernel), List.mem_of_getElem? (i := 643) (by decide +kernel), List.mem_of_getElem? (i := 644) (by decide +kernel)⟩
theorem lw_p33 : lw_okq (⟨"ArraySegments", "throwHolds", "()Z"⟩, 4) := ⟨⟨by decide +kernel, by decide +kernel⟩, List.mem_of_getElem? (i := 12) (by decide +kernel), List.mem_of_getElem? (i := 647) (by decide +kernel), List.mem_of_getElem? (i := 648) (by decide +kernel)⟩
theorem lw_p34 : lw_okq (⟨"ArraySegmentsModel", "forget", "()V"⟩, 36) := ⟨⟨by decide +kernel, by decide +kernel⟩, List.mem_of_getElem? (i := 671) (by decide +kernel), List.mem_of_getElem? (i := 677) (by decide +kernel), List.mem_of_getElem? (i := 678) (by decide +kernel)⟩
theorem lw_p35 : lw_okq (⟨"ArraySegmentsModel", "flow", "()V"⟩, 36) := ⟨⟨by decide +kernel, by decide +kernel⟩, List.mem_of_getElem? (i := 671) (by decide +kernel), List.mem_of_getElem? (i := 820) (by decide +kernel), List.mem_of_getElem? (i := 821) (by decide +kernel)⟩
theorem lw_p36 : lw_okq (⟨"ArraySegmentsModel", "join", "()V"⟩, 36) := ⟨⟨by decide +kernel, by decide +kernel⟩, List.mem_of_getElem? (i := 671) (by decide +kernel), List.mem_of_getElem? (i := 824) (by decide +kernel), List.mem_of_getElem? (i := 825) (by decide +kernel)⟩
theorem lw_p37 : lw_okq (⟨"ArraySegmentsModel", "copyBank", "(II)V"⟩, 36) := ⟨⟨by decide +kernel, by decide +kernel⟩, List.mem_of_getElem? (i := 671) (by decide +kernel), List.mem_of_getElem? (i := 828) (by decide +kernel), List.mem_of_getElem? (i := 829) (by decide +kernel)⟩
theorem lw_p38 : lw_okq (⟨"ArraySegmentsModel", "copySite", "(II)V"⟩, 36) := ⟨⟨by decide +kernel, by decide +kernel⟩, List.mem_of_getElem? (i := 671) (by decide +kernel), List.mem_of_getElem? (i := 832) (by decide +kernel), List.mem_of_getElem? (i := 833) (by decide +kernel)⟩
theorem lw_p39 : lw_okq (⟨"ArraySegmentsModel", "joinSite", "(II)V"⟩, 36) := ⟨⟨by decide +kernel, by decide +kernel⟩, List.mem_of_getElem? (i := 671) (by decide +kernel), List.mem_of_getElem? (i := 836) (by decide +kernel), List.mem_of_getElem? (i := 837) (by decide +kernel)⟩
theorem lw_p40 : lw_okq (⟨"ArraySegmentsModel", "joinPlace", "(IIJJ)V"⟩, 36) := ⟨⟨by decide +kernel, by decide +kernel⟩, List.mem_of_getElem? (i := 671) (by decide +kernel), List.mem_of_getElem? (i := 840) (by decide +kernel), List.mem_of_getElem? (i := 841) (by decide +kernel)⟩
theorem lw_p41 : lw_okq (⟨"ArraySegmentsModel", "step", "(I)V"⟩, 36) := ⟨⟨by decide +kernel, by decide +kernel⟩, List.mem_of_getElem? (i := 671) (by decide +kernel), List.mem_of_getElem? (i := 844) (by decide +kernel), List.mem_of_getElem? (i := 845) (by decide +kernel)⟩
theorem lw_p42 : lw_okq (⟨"ArraySegmentsModel", "setSpan", "(IJJ)V"⟩, 36) := ⟨⟨by decide +kernel, by decide +kernel⟩, List.mem_of_getElem? (i := 671) (by decide +kernel), List.mem_of_getElem? (i := 848) (by decide +kernel), List.mem_of_getElem? (i := 849) (by decide +kernel)⟩
theorem lw_p43 : lw_okq (⟨"ArraySegmentsModel", "made", "(I)V"⟩, 36) := ⟨⟨by decide +kernel, by decide +kernel⟩, List.mem_of_getElem? (i := 671) (by decide +kernel), List.mem_of_getElem? (i := 854) (by decide +kernel), List.mem_of_getElem? (i := 855) (by decide +kernel)⟩
theorem lw_p44 : lw_okq (⟨"ArraySegmentsModel", "mark", "(IIZ)V"⟩, 36) := ⟨⟨by decide +kernel, by decide +kernel⟩, List.mem_of_getElem? (i := 671) (by decide +kernel), List.mem_of_getElem? (i := 858) (by decide +kernel), List.mem_of_getElem? (i := 859) (by decide +kernel)⟩
theorem lw_p45 : lw_okq (⟨"ArraySegmentsModel", "narrow", "(IJJ)V"⟩, 36) := ⟨⟨by decide +kernel, by decide +kernel⟩, List.mem_of_getElem? (i := 671) (by decide +kernel), List.mem_of_getElem? (i := 863) (by decide +kernel), List.mem_of_getElem? (i := 864) (by decide +kernel)⟩
theorem lw_p46 : lw_okq (⟨"ArraySegmentsModel", "mean", "(II)V"⟩, 36) := ⟨⟨by decide +kernel, by decide +kernel⟩, List.mem_of_getElem? (i := 671) (by decide +kernel), List.mem_of_getElem? (i := 867) (by decide +kernel), List.mem_of_getElem? (i := 868) (by decide +kernel)⟩
theorem lw_p47 : lw_okq (⟨"ArraySegmentsModel", "cloned", "(I)V"⟩, 36) := ⟨⟨by decide +kernel, by decide +kernel⟩, List.mem_of_getElem? (i := 671) (by decide +kernel), List.mem_of_getElem? (i := 871) (by decide +kernel), List.mem_of_getElem? (i := 872) (by decide +kernel)⟩
def lw_privs_3 : List (MethodName × Nat) := [(⟨"ArraySegments", "arrayHolds", "(I)Z"⟩, 4), (⟨"ArraySegments", "throwHolds", "()Z"⟩, 4), (⟨"ArraySegmentsModel", "forget", "()V"⟩, 36), (⟨"ArraySegmentsModel", "flow", "()V"⟩, 36), (⟨"ArraySegmentsModel", "join", "()V"⟩, 36), (⟨"ArraySegmentsModel", "copyBank", "(II)V"⟩, 36), (⟨"ArraySegmentsModel", "copySite", "(II)V"⟩, 36), (⟨"ArraySegmentsModel", "joinSite", "(II)V"⟩, 36), (⟨"ArraySegmentsModel", "joinPlace", "(IIJJ)V"⟩, 36), (⟨"ArraySegmentsModel", "step", "(I)V"⟩, 36), (⟨"ArraySegmentsModel", "setSpan", "(IJJ)V"⟩, 36), (⟨"ArraySegmentsModel", "made", "(I)V"⟩, 36), (⟨"ArraySegmentsModel", "mark", "(IIZ)V"⟩, 36), (⟨"ArraySegmentsModel", "narrow", "(IJJ)V"⟩, 36), (⟨"ArraySegmentsModel", "mean", "(II)V"⟩, 36), (⟨"ArraySegmentsModel", "cloned", "(I)V"⟩, 36)]
theorem lw_r3 : ∀ q ∈ lw_privs_3, lw_okq q := List.forall_mem_cons.mpr ⟨lw_p32, List.forall_mem_cons.mpr ⟨lw_p33, List.forall_mem_cons.mpr ⟨lw_p34, List.forall_mem_cons.mpr ⟨lw_p35, List.forall_mem_cons.mpr ⟨lw_p36, List.forall_mem_cons.mpr ⟨lw_p37, List.forall_mem_cons.mpr ⟨lw_p38, List.forall_mem_cons.mpr ⟨lw_p39, List.forall_mem_cons.mpr ⟨lw_p40, List.forall_mem_cons.mpr ⟨lw_p41, List.forall_mem_cons.mpr ⟨lw_p42, List.forall_mem_cons.mpr ⟨lw_p43, List.forall_mem_cons.mpr ⟨lw_p44, List.forall_mem_cons.mpr ⟨lw_p45, List.forall_mem_cons.mpr ⟨lw_p46, List.forall_mem_cons.mpr ⟨lw_p47, fun _ h => absurd h List.not_mem_nil⟩⟩⟩⟩⟩⟩⟩⟩⟩⟩⟩⟩⟩⟩⟩⟩
theorem lw_p48 : lw_okq (⟨"ArraySegmentsModel", "use", "(I)V"⟩, 36) := ⟨⟨by decide +kernel, by decide +kernel⟩, List.mem_of_getElem? (i := 671) (by decide +kernel), List.mem_of_getElem? (i := 875) (by decide +kernel), List.mem_of_getElem? (i := 876) (by decide +kernel)⟩
theorem lw_p49 : lw_okq (⟨"ArraySegmentsModel", "has", "(II)Z"⟩, 36) := ⟨⟨by decide +kernel, by decide +kernel⟩, List.mem_of_getElem? (i := 671) (by decide +kernel), List.mem_of_getElem? (i := 879) (by decide +kernel), List.mem_of_getElem? (i := 880) (by decide +kernel)⟩
theorem lw_p50 : lw_okq (⟨"ArraySegmentsModel", "written", "(I)V"⟩, 36) := ⟨⟨by decide +kernel, by decide +kernel⟩, List.mem_of_getElem? (i := 671) (by decide +kernel), List.mem_of_getElem? (i := 883) (by decide +kernel), List.mem_of_getElem? (i := 884) (by decide +kernel)⟩
theorem lw_p51 : lw_okq (⟨"ArraySegmentsModel", "usePlace", "(IIII)V"⟩, 36) := ⟨⟨by decide +kernel, by decide +kernel⟩, List.mem_of_getElem? (i := 671) (by decide +kernel), List.mem_of_getElem? (i := 887) (by decide +kernel), List.mem_of_getElem? (i := 888) (by decide +kernel)⟩
theorem lw_p52 : lw_okq (⟨"ArraySegmentsModel", "lanesOf", "(I)I"⟩, 36) := ⟨⟨by decide +kernel, by decide +kernel⟩, List.mem_of_getElem? (i := 671) (by decide +kernel), List.mem_of_getElem? (i := 891) (by decide +kernel), List.mem_of_getElem? (i := 892) (by decide +kernel)⟩
theorem lw_p53 : lw_okq (⟨"ArraySegmentsModel", "leastLength", "(I)J"⟩, 36) := ⟨⟨by decide +kernel, by decide +kernel⟩, List.mem_of_getElem? (i := 671) (by decide +kernel), List.mem_of_getElem? (i := 895) (by decide +kernel), List.mem_of_getElem? (i := 896) (by decide +kernel)⟩
theorem lw_p54 : lw_okq (⟨"ArraySegmentsModel", "mostLength", "(I)J"⟩, 36) := ⟨⟨by decide +kernel, by decide +kernel⟩, List.mem_of_getElem? (i := 671) (by decide +kernel), List.mem_of_getElem? (i := 901) (by decide +kernel), List.mem_of_getElem? (i := 902) (by decide +kernel)⟩
theorem lw_p55 : lw_okq (⟨"ArraySegmentsModel", "only", "(I)I"⟩, 36) := ⟨⟨by decide +kernel, by decide +kernel⟩, List.mem_of_getElem? (i := 671) (by decide +kernel), List.mem_of_getElem? (i := 920) (by decide +kernel), List.mem_of_getElem? (i := 921) (by decide +kernel)⟩
theorem lw_p56 : lw_okq (⟨"ArraySegmentsModel", "read", "(I)V"⟩, 36) := ⟨⟨by decide +kernel, by decide +kernel⟩, List.mem_of_getElem? (i := 671) (by decide +kernel), List.mem_of_getElem? (i := 924) (by decide +kernel), List.mem_of_getElem? (i := 925) (by decide +kernel)⟩
theorem lw_p57 : lw_okq (⟨"ArraySegmentsModel", "gather", "(IJJ)V"⟩, 36) := ⟨⟨by decide +kernel, by decide +kernel⟩, List.mem_of_getElem? (i := 671) (by decide +kernel), List.mem_of_getElem? (i := 928) (by decide +kernel), List.mem_of_getElem? (i := 929) (by decide +kernel)⟩
theorem lw_p58 : lw_okq (⟨"ArraySegmentsModel", "moved", "(I)V"⟩, 36) := ⟨⟨by decide +kernel, by decide +kernel⟩, List.mem_of_getElem? (i := 671) (by decide +kernel), List.mem_of_getElem? (i := 932) (by decide +kernel), List.mem_of_getElem? (i := 933) (by decide +kernel)⟩
theorem lw_p59 : lw_okq (⟨"ArraySegmentsModel", "strong", "(IIJJJ)V"⟩, 36) := ⟨⟨by decide +kernel, by decide +kernel⟩, List.mem_of_getElem? (i := 671) (by decide +kernel), List.mem_of_getElem? (i := 936) (by decide +kernel), List.mem_of_getElem? (i := 937) (by decide +kernel)⟩
theorem lw_p60 : lw_okq (⟨"ArraySegmentsModel", "filled", "(I)V"⟩, 36) := ⟨⟨by decide +kernel, by decide +kernel⟩, List.mem_of_getElem? (i := 671) (by decide +kernel), List.mem_of_getElem? (i := 940) (by decide +kernel), List.mem_of_getElem? (i := 941) (by decide +kernel)⟩
theorem lw_p61 : lw_okq (⟨"ArraySegmentsModel", "measured", "(I)V"⟩, 36) := ⟨⟨by decide +kernel, by decide +kernel⟩, List.mem_of_getElem? (i := 671) (by decide +kernel), List.mem_of_getElem? (i := 944) (by decide +kernel), List.mem_of_getElem? (i := 945) (by decide +kernel)⟩
theorem lw_p62 : lw_okq (⟨"ArraySegmentsModel", "refuse", "(I)I"⟩, 36) := ⟨⟨by decide +kernel, by decide +kernel⟩, List.mem_of_getElem? (i := 671) (by decide +kernel), List.mem_of_getElem? (i := 960) (by decide +kernel), List.mem_of_getElem? (i := 961) (by decide +kernel)⟩
theorem lw_p63 : lw_okq (⟨"ArraySegmentsModel", "tell", "(J)I"⟩, 36) := ⟨⟨by decide +kernel, by decide +kernel⟩, List.mem_of_getElem? (i := 671) (by decide +kernel), List.mem_of_getElem? (i := 964) (by decide +kernel), List.mem_of_getElem? (i := 965) (by decide +kernel)⟩
def lw_privs_4 : List (MethodName × Nat) := [(⟨"ArraySegmentsModel", "use", "(I)V"⟩, 36), (⟨"ArraySegmentsModel", "has", "(II)Z"⟩, 36), (⟨"ArraySegmentsModel", "written", "(I)V"⟩, 36), (⟨"ArraySegmentsModel", "usePlace", "(IIII)V"⟩, 36), (⟨"ArraySegmentsModel", "lanesOf", "(I)I"⟩, 36), (⟨"ArraySegmentsModel", "leastLength", "(I)J"⟩, 36), (⟨"ArraySegmentsModel", "mostLength", "(I)J"⟩, 36), (⟨"ArraySegmentsModel", "only", "(I)I"⟩, 36), (⟨"ArraySegmentsModel", "read", "(I)V"⟩, 36), (⟨"ArraySegmentsModel", "gather", "(IJJ)V"⟩, 36), (⟨"ArraySegmentsModel", "moved", "(I)V"⟩, 36), (⟨"ArraySegmentsModel", "strong", "(IIJJJ)V"⟩, 36), (⟨"ArraySegmentsModel", "filled", "(I)V"⟩, 36), (⟨"ArraySegmentsModel", "measured", "(I)V"⟩, 36), (⟨"ArraySegmentsModel", "refuse", "(I)I"⟩, 36), (⟨"ArraySegmentsModel", "tell", "(J)I"⟩, 36)]
theorem lw_r4 : ∀ q ∈ lw_privs_4, lw_okq q := List.forall_mem_cons.mpr ⟨lw_p48, List.forall_mem_cons.mpr ⟨lw_p49, List.forall_mem_cons.mpr ⟨lw_p50, List.forall_mem_cons.mpr ⟨lw_p51, List.forall_mem_cons.mpr ⟨lw_p52, List.forall_mem_cons.mpr ⟨lw_p53, List.forall_mem_cons.mpr ⟨lw_p54, List.forall_mem_cons.mpr ⟨lw_p55, List.forall_mem_cons.mpr ⟨lw_p56, List.forall_mem_cons.mpr ⟨lw_p57, List.forall_mem_cons.mpr ⟨lw_p58, List.forall_mem_cons.mpr ⟨lw_p59, List.forall_mem_cons.mpr ⟨lw_p60, List.forall_mem_cons.mpr ⟨lw_p61, List.forall_mem_cons.mpr ⟨lw_p62, List.forall_mem_cons.mpr ⟨lw_p63, fun _ h => absurd h List.not_mem_nil⟩⟩⟩⟩⟩⟩⟩⟩⟩⟩⟩⟩⟩⟩⟩⟩
theorem lw_p64 : lw_okq (⟨"ArraySegmentsModel", "barred", "(I)I"⟩, 36) := ⟨⟨by decide +kernel, by decide +kernel⟩, List.mem_of_getElem? (i := 671) (by decide +kernel), List.mem_of_getElem? (i := 980) (by decide +kernel), List.mem_of_getElem? (i := 981) (by decide +kernel)⟩
theorem lw_p65 : lw_okq (⟨"ArraySegmentsModel", "segments", "(I)I"⟩, 36) := ⟨⟨by decide +kernel, by decide +kernel⟩, List.mem_of_getElem? (i := 671) (by decide +kernel), List.mem_of_getElem? (i := 984) (by decide +kernel), List.mem_of_getElem? (i := 985) (by decide +kernel)⟩
theorem lw_p66 : lw_okq (⟨"ArraySegmentsModel", "isLike", "(II)Z"⟩, 36) := ⟨⟨by decide +kernel, by decide +kernel⟩, List.mem_of_getElem? (i := 671) (by decide +kernel), List.mem_of_getElem? (i := 988) (by decide +kernel), List.mem_of_getElem? (i := 989) (by decide +kernel)⟩
theorem lw_p67 : lw_okq (⟨"ArraySegmentsModel", "isSorted", "(I)Z"⟩, 36) := ⟨⟨by decide +kernel, by decide +kernel⟩, List.mem_of_getElem? (i := 671) (by decide +kernel), List.mem_of_getElem? (i := 992) (by decide +kernel), List.mem_of_getElem? (i := 993) (by decide +kernel)⟩
theorem lw_p68 : lw_okq (⟨"ArraySegmentsModel", "draw", "()J"⟩, 36) := ⟨⟨by decide +kernel, by decide +kernel⟩, List.mem_of_getElem? (i := 671) (by decide +kernel), List.mem_of_getElem? (i := 1008) (by decide +kernel), List.mem_of_getElem? (i := 1009) (by decide +kernel)⟩
theorem lw_p69 : lw_okq (⟨"ArraySegmentsModel", "work", "(I)V"⟩, 36) := ⟨⟨by decide +kernel, by decide +kernel⟩, List.mem_of_getElem? (i := 671) (by decide +kernel), List.mem_of_getElem? (i := 1015) (by decide +kernel), List.mem_of_getElem? (i := 1016) (by decide +kernel)⟩
theorem lw_p70 : lw_okq (⟨"ArraySegmentsModel", "fail", "(II)V"⟩, 36) := ⟨⟨by decide +kernel, by decide +kernel⟩, List.mem_of_getElem? (i := 671) (by decide +kernel), List.mem_of_getElem? (i := 1019) (by decide +kernel), List.mem_of_getElem? (i := 1020) (by decide +kernel)⟩
theorem lw_p71 : lw_okq (⟨"ArraySegmentsModel", "newArray", "(IIII)V"⟩, 36) := ⟨⟨by decide +kernel, by decide +kernel⟩, List.mem_of_getElem? (i := 671) (by decide +kernel), List.mem_of_getElem? (i := 1023) (by decide +kernel), List.mem_of_getElem? (i := 1024) (by decide +kernel)⟩
theorem lw_p72 : lw_okq (⟨"ArraySegmentsModel", "workClone", "(I)V"⟩, 36) := ⟨⟨by decide +kernel, by decide +kernel⟩, List.mem_of_getElem? (i := 671) (by decide +kernel), List.mem_of_getElem? (i := 1027) (by decide +kernel), List.mem_of_getElem? (i := 1028) (by decide +kernel)⟩
theorem lw_p73 : lw_okq (⟨"ArraySegmentsModel", "isPlace", "(IIII)Z"⟩, 36) := ⟨⟨by decide +kernel, by decide +kernel⟩, List.mem_of_getElem? (i := 671) (by decide +kernel), List.mem_of_getElem? (i := 1031) (by decide +kernel), List.mem_of_getElem? (i := 1032) (by decide +kernel)⟩
theorem lw_p74 : lw_okq (⟨"ArraySegmentsModel", "workCopy", "(I)V"⟩, 36) := ⟨⟨by decide +kernel, by decide +kernel⟩, List.mem_of_getElem? (i := 671) (by decide +kernel), List.mem_of_getElem? (i := 1039) (by decide +kernel), List.mem_of_getElem? (i := 1040) (by decide +kernel)⟩
theorem lw_p75 : lw_okq (⟨"ArraySegmentsModel", "workFill", "(I)V"⟩, 36) := ⟨⟨by decide +kernel, by decide +kernel⟩, List.mem_of_getElem? (i := 671) (by decide +kernel), List.mem_of_getElem? (i := 1043) (by decide +kernel), List.mem_of_getElem? (i := 1044) (by decide +kernel)⟩
theorem lw_p76 : lw_okq (⟨"ArraySegmentsModel", "isSo", "(I)Z"⟩, 36) := ⟨⟨by decide +kernel, by decide +kernel⟩, List.mem_of_getElem? (i := 671) (by decide +kernel), List.mem_of_getElem? (i := 1072) (by decide +kernel), List.mem_of_getElem? (i := 1073) (by decide +kernel)⟩
def lw_privs_5 : List (MethodName × Nat) := [(⟨"ArraySegmentsModel", "barred", "(I)I"⟩, 36), (⟨"ArraySegmentsModel", "segments", "(I)I"⟩, 36), (⟨"ArraySegmentsModel", "isLike", "(II)Z"⟩, 36), (⟨"ArraySegmentsModel", "isSorted", "(I)Z"⟩, 36), (⟨"ArraySegmentsModel", "draw", "()J"⟩, 36), (⟨"ArraySegmentsModel", "work", "(I)V"⟩, 36), (⟨"ArraySegmentsModel", "fail", "(II)V"⟩, 36), (⟨"ArraySegmentsModel", "newArray", "(IIII)V"⟩, 36), (⟨"ArraySegmentsModel", "workClone", "(I)V"⟩, 36), (⟨"ArraySegmentsModel", "isPlace", "(IIII)Z"⟩, 36), (⟨"ArraySegmentsModel", "workCopy", "(I)V"⟩, 36), (⟨"ArraySegmentsModel", "workFill", "(I)V"⟩, 36), (⟨"ArraySegmentsModel", "isSo", "(I)Z"⟩, 36)]
theorem lw_r5 : ∀ q ∈ lw_privs_5, lw_okq q := List.forall_mem_cons.mpr ⟨lw_p64, List.forall_mem_cons.mpr ⟨lw_p65, List.forall_mem_cons.mpr ⟨lw_p66, List.forall_mem_cons.mpr ⟨lw_p67, List.forall_mem_cons.mpr ⟨lw_p68, List.forall_mem_cons.mpr ⟨lw_p69, List.forall_mem_cons.mpr ⟨lw_p70, List.forall_mem_cons.mpr ⟨lw_p71, List.forall_mem_cons.mpr ⟨lw_p72, List.forall_mem_cons.mpr ⟨lw_p73, List.forall_mem_cons.mpr ⟨lw_p74, List.forall_mem_cons.mpr ⟨lw_p75, List.forall_mem_cons.mpr ⟨lw_p76, fun _ h => absurd h List.not_mem_nil⟩⟩⟩⟩⟩⟩⟩⟩⟩⟩⟩⟩⟩
def lw_privs : List (MethodName × Nat) := lw_privs_1 ++ (lw_privs_2 ++ (lw_privs_3 ++ (lw_privs_4 ++ (lw_privs_5))))
def lw_tbl : List Cond := k2_sels lw_privs ++ tables_1
theorem lw_privs_ok : ∀ q ∈ lw_privs, lw_okq q := by
  show ∀ q ∈ lw_privs_1 ++ (lw_privs_2 ++ (lw_privs_3 ++ (lw_privs_4 ++ (lw_privs_5)))), lw_okq q
  exact List.forall_mem_append.mpr ⟨lw_r1, List.forall_mem_append.mpr ⟨lw_r2, List.forall_mem_append.mpr ⟨lw_r3, List.forall_mem_append.mpr ⟨lw_r4, lw_r5⟩⟩⟩⟩
-- ===== end of PART A; then your names; then what follows =====
end
section
/-! ===== BEGIN words of one list among another's, by their places ===== -/
theorem goodIn_r {big : List Cond} (ws : List Cond) (ps : List Nat) (hp : ws = ps.filterMap (fun i => big[i]?)) (h : ws.all goodWord = true) : GoodIn big ws := by
  intro w hw
  have h1 := List.all_eq_true.mp h w hw
  rw [hp] at hw
  obtain ⟨i, -, hi⟩ := List.mem_filterMap.mp hw
  have hm : w ∈ big := by first | exact List.mem_of_getElem? hi | exact List.getElem?_mem hi
  exact ⟨hm, good_of_word h1⟩
theorem goodIn_app {big a b : List Cond} (ha : GoodIn big a) (hb : GoodIn big b) : GoodIn big (a ++ b) := fun w h => (List.mem_append.mp h).elim (ha w) (hb w)
theorem goodIn_ca {big a b : List Cond} {c : Cond} (ha : GoodIn big (c :: a)) (hb : GoodIn big b) : GoodIn big (c :: (a ++ b)) := fun w h => (List.mem_cons.mp h).elim (fun e => ha w (List.mem_cons.mpr (Or.inl e))) (fun h => (List.mem_append.mp h).elim (fun h => ha w (List.mem_cons.mpr (Or.inr h))) (hb w))
theorem goodIn_sub {big ws : List Cond} (hm : ∀ w ∈ ws, w ∈ big) (h : ws.all goodWord = true) : GoodIn big ws := fun w hw => ⟨hm w hw, good_of_word (List.all_eq_true.mp h w hw)⟩
/-! ===== END ===== -/

/-! ===== BEGIN printed: names, fields, word lists, decode rows ===== -/
def RX0 : String := "ArraySegments$Facts"
def TX0 : u_T := fun k => match k with
  | 0 => ("ArraySegments$Facts", "isReached", "Z", false)
  | 1 => ("ArraySegments$Facts", "least", "[I", true)
  | 2 => ("ArraySegments$Facts", "greatest", "[I", true)
  | 3 => ("ArraySegments$Facts", "sites", "[J", true)
  | 4 => ("ArraySegments$Facts", "maybeNull", "[Z", true)
  | 5 => ("ArraySegments$Facts", "known", "[Z", true)
  | 6 => ("ArraySegments$Facts", "lanes", "[I", true)
  | 7 => ("ArraySegments$Facts", "shortest", "[I", true)
  | 8 => ("ArraySegments$Facts", "longest", "[I", true)
  | 9 => ("ArraySegments$Facts", "leastAt", "[I", true)
  | _ => ("ArraySegments$Facts", "greatestAt", "[I", true)
def tyX0 : Nat → FieldType := fun k => match k with
  | 0 => .boolean
  | 1 => .array .int
  | 2 => .array .int
  | 3 => .array .long
  | 4 => .array .boolean
  | 5 => .array .boolean
  | 6 => .array .int
  | 7 => .array .int
  | 8 => .array .int
  | 9 => .array .int
  | _ => .array .int
abbrev wsX00 : List Cond := u_ws RX0 TX0 11
theorem nmX0 : ∀ a, a < 11 → ∀ b, b < 11 → a ≠ b → (TX0 a).2.1 ≠ (TX0 b).2.1 := by decide +kernel
theorem tyX0_ok : ∀ k, k < 11 → parseFieldDescriptor (TX0 k).2.2.1 = some (tyX0 k) := by decide +kernel
abbrev cX0_init : ByteArray := prog_2_method_1_code
def yX0_init : MethodName := ⟨RX0, "<init>", "()V"⟩
abbrev cX0_begin : ByteArray := prog_2_method_2_code
def yX0_begin : MethodName := ⟨RX0, "begin", "()V"⟩
abbrev cX0_takeOver : ByteArray := prog_2_method_3_code
def yX0_takeOver : MethodName := ⟨RX0, "takeOver", "(LArraySegments$Facts;)V"⟩
abbrev cX0_joinWith : ByteArray := prog_2_method_4_code
def yX0_joinWith : MethodName := ⟨RX0, "joinWith", "(LArraySegments$Facts;)V"⟩
abbrev cX0_addArray : ByteArray := prog_2_method_5_code
def yX0_addArray : MethodName := ⟨RX0, "addArray", "(ILArraySegments$Facts;I)V"⟩
abbrev cX0_makeArray : ByteArray := prog_2_method_6_code
def yX0_makeArray : MethodName := ⟨RX0, "makeArray", "(IIII)V"⟩
abbrev cX0_putSpan : ByteArray := prog_2_method_7_code
def yX0_putSpan : MethodName := ⟨RX0, "putSpan", "(IIJIIZ)V"⟩
abbrev cX0_movePlaces : ByteArray := prog_2_method_8_code
def yX0_movePlaces : MethodName := ⟨RX0, "movePlaces", "(IIIII)V"⟩
abbrev cX0_setSpan : ByteArray := prog_2_method_9_code
def yX0_setSpan : MethodName := ⟨RX0, "setSpan", "(III)V"⟩
abbrev cX0_setOutcome : ByteArray := prog_2_method_10_code
def yX0_setOutcome : MethodName := ⟨RX0, "setOutcome", "(IJJ)V"⟩
abbrev cX0_isOneNumber : ByteArray := prog_2_method_11_code
def yX0_isOneNumber : MethodName := ⟨RX0, "isOneNumber", "(I)Z"⟩
abbrev cX0_narrow : ByteArray := prog_2_method_12_code
def yX0_narrow : MethodName := ⟨RX0, "narrow", "(III)V"⟩
abbrev cX0_setReference : ByteArray := prog_2_method_13_code
def yX0_setReference : MethodName := ⟨RX0, "setReference", "(IJZ)V"⟩
abbrev cX0_narrowReference : ByteArray := prog_2_method_14_code
def yX0_narrowReference : MethodName := ⟨RX0, "narrowReference", "(IJ)V"⟩
abbrev cX0_castFits : ByteArray := prog_2_method_15_code
def yX0_castFits : MethodName := ⟨RX0, "castFits", "(II)Z"⟩
abbrev cX0_castLeast : ByteArray := prog_2_method_16_code
def yX0_castLeast : MethodName := ⟨RX0, "castLeast", "(II)I"⟩
abbrev cX0_castGreatest : ByteArray := prog_2_method_17_code
def yX0_castGreatest : MethodName := ⟨RX0, "castGreatest", "(II)I"⟩
abbrev cX0_withLane : ByteArray := prog_2_method_18_code
def yX0_withLane : MethodName := ⟨RX0, "withLane", "(JI)J"⟩
abbrev cX0_lanesOf : ByteArray := prog_2_method_19_code
def yX0_lanesOf : MethodName := ⟨RX0, "lanesOf", "(J)I"⟩
abbrev cX0_longestOf : ByteArray := prog_2_method_20_code
def yX0_longestOf : MethodName := ⟨RX0, "longestOf", "(J)I"⟩
abbrev cX0_someMayHaveFewer : ByteArray := prog_2_method_21_code
def yX0_someMayHaveFewer : MethodName := ⟨RX0, "someMayHaveFewer", "(JJ)Z"⟩
abbrev cX0_areAlike : ByteArray := prog_2_method_22_code
def yX0_areAlike : MethodName := ⟨RX0, "areAlike", "(III)Z"⟩
abbrev cX0_beginsSegment : ByteArray := prog_2_method_23_code
def yX0_beginsSegment : MethodName := ⟨RX0, "beginsSegment", "(II)Z"⟩
abbrev cX0_countSegments : ByteArray := prog_2_method_24_code
def yX0_countSegments : MethodName := ⟨RX0, "countSegments", "(I)I"⟩
abbrev cX0_firstOfSegment : ByteArray := prog_2_method_25_code
def yX0_firstOfSegment : MethodName := ⟨RX0, "firstOfSegment", "(II)I"⟩
abbrev cX0_behindSegment : ByteArray := prog_2_method_26_code
def yX0_behindSegment : MethodName := ⟨RX0, "behindSegment", "(II)I"⟩
abbrev cX0_isSorted : ByteArray := prog_2_method_27_code
def yX0_isSorted : MethodName := ⟨RX0, "isSorted", "(I)Z"⟩
abbrev cX0_countKnown : ByteArray := prog_2_method_28_code
def yX0_countKnown : MethodName := ⟨RX0, "countKnown", "()I"⟩
def RX1 : String := "ArraySegments$Flow"
def TX1 : u_T := fun k => match k with
  | 0 => ("ArraySegments$Flow", "now", "LArraySegments$Facts;", true)
  | 1 => ("ArraySegments$Flow", "ahead", "LArraySegments$Facts;", true)
  | 2 => ("ArraySegments$Flow", "isOld", "Z", false)
  | 3 => ("ArraySegments$Flow", "isReached", "[Z", true)
  | 4 => ("ArraySegments$Flow", "mayThrow", "[I", true)
  | 5 => ("ArraySegments$Flow", "gatheredAny", "Z", false)
  | 6 => ("ArraySegments$Flow", "gatheredLeast", "I", false)
  | _ => ("ArraySegments$Flow", "gatheredGreatest", "I", false)
def tyX1 : Nat → FieldType := fun k => match k with
  | 0 => .object "ArraySegments$Facts"
  | 1 => .object "ArraySegments$Facts"
  | 2 => .boolean
  | 3 => .array .boolean
  | 4 => .array .int
  | 5 => .boolean
  | 6 => .int
  | _ => .int
abbrev wsX10 : List Cond := u_ws RX1 TX1 8
theorem nmX1 : ∀ a, a < 8 → ∀ b, b < 8 → a ≠ b → (TX1 a).2.1 ≠ (TX1 b).2.1 := by decide +kernel
theorem tyX1_ok : ∀ k, k < 8 → parseFieldDescriptor (TX1 k).2.2.1 = some (tyX1 k) := by decide +kernel
abbrev cX1_init : ByteArray := prog_3_method_1_code
def yX1_init : MethodName := ⟨RX1, "<init>", "()V"⟩
abbrev cX1_follow : ByteArray := prog_3_method_2_code
def yX1_follow : MethodName := ⟨RX1, "follow", "(LArraySegments$Program;)V"⟩
abbrev cX1_countReached : ByteArray := prog_3_method_3_code
def yX1_countReached : MethodName := ⟨RX1, "countReached", "()I"⟩
abbrev cX1_countThrowing : ByteArray := prog_3_method_4_code
def yX1_countThrowing : MethodName := ⟨RX1, "countThrowing", "()I"⟩
abbrev cX1_pass : ByteArray := prog_3_method_5_code
def yX1_pass : MethodName := ⟨RX1, "pass", "(LArraySegments$Program;I)I"⟩
abbrev cX1_passNew : ByteArray := prog_3_method_6_code
def yX1_passNew : MethodName := ⟨RX1, "passNew", "(IIII)I"⟩
abbrev cX1_passClone : ByteArray := prog_3_method_7_code
def yX1_passClone : MethodName := ⟨RX1, "passClone", "(III)I"⟩
abbrev cX1_passLength : ByteArray := prog_3_method_8_code
def yX1_passLength : MethodName := ⟨RX1, "passLength", "(II)I"⟩
abbrev cX1_passWrite : ByteArray := prog_3_method_9_code
def yX1_passWrite : MethodName := ⟨RX1, "passWrite", "(IIII)I"⟩
abbrev cX1_passRead : ByteArray := prog_3_method_10_code
def yX1_passRead : MethodName := ⟨RX1, "passRead", "(IIII)I"⟩
abbrev cX1_passCopy : ByteArray := prog_3_method_11_code
def yX1_passCopy : MethodName := ⟨RX1, "passCopy", "(IIIII)I"⟩
abbrev cX1_joinCopy : ByteArray := prog_3_method_12_code
def yX1_joinCopy : MethodName := ⟨RX1, "joinCopy", "(IIIII)V"⟩
abbrev cX1_passFill : ByteArray := prog_3_method_13_code
def yX1_passFill : MethodName := ⟨RX1, "passFill", "(IIIII)I"⟩
abbrev cX1_mayMiss : ByteArray := prog_3_method_14_code
def yX1_mayMiss : MethodName := ⟨RX1, "mayMiss", "(II)Z"⟩
abbrev cX1_useThrows : ByteArray := prog_3_method_15_code
def yX1_useThrows : MethodName := ⟨RX1, "useThrows", "(IIZ)I"⟩
abbrev cX1_copyThrows : ByteArray := prog_3_method_16_code
def yX1_copyThrows : MethodName := ⟨RX1, "copyThrows", "(IIIII)I"⟩
abbrev cX1_narrowPlace : ByteArray := prog_3_method_17_code
def yX1_narrowPlace : MethodName := ⟨RX1, "narrowPlace", "(III)V"⟩
abbrev cX1_gather : ByteArray := prog_3_method_18_code
def yX1_gather : MethodName := ⟨RX1, "gather", "(JIJ)V"⟩
abbrev cX1_nullBit : ByteArray := prog_3_method_19_code
def yX1_nullBit : MethodName := ⟨RX1, "nullBit", "(I)I"⟩
abbrev cX1_bitIf : ByteArray := prog_3_method_20_code
def yX1_bitIf : MethodName := ⟨RX1, "bitIf", "(ZI)I"⟩
abbrev cX1_firstSite : ByteArray := prog_3_method_21_code
def yX1_firstSite : MethodName := ⟨RX1, "firstSite", "(J)I"⟩
def RX2 : String := "ArraySegments$Machine"
def TX2 : u_T := fun k => match k with
  | 0 => ("ArraySegments$Machine", "hasRun", "Z", false)
  | 1 => ("ArraySegments$Machine", "thrown", "I", false)
  | 2 => ("ArraySegments$Machine", "thrownAt", "I", false)
  | 3 => ("ArraySegments$Machine", "values", "[I", true)
  | 4 => ("ArraySegments$Machine", "meant", "[I", true)
  | 5 => ("ArraySegments$Machine", "lanes", "[I", true)
  | 6 => ("ArraySegments$Machine", "lengths", "[I", true)
  | 7 => ("ArraySegments$Machine", "cells", "[I", true)
  | _ => ("ArraySegments$Machine", "state", "J", false)
def tyX2 : Nat → FieldType := fun k => match k with
  | 0 => .boolean
  | 1 => .int
  | 2 => .int
  | 3 => .array .int
  | 4 => .array .int
  | 5 => .array .int
  | 6 => .array .int
  | 7 => .array .int
  | _ => .long
abbrev wsX20 : List Cond := u_ws RX2 TX2 9
theorem nmX2 : ∀ a, a < 9 → ∀ b, b < 9 → a ≠ b → (TX2 a).2.1 ≠ (TX2 b).2.1 := by decide +kernel
theorem tyX2_ok : ∀ k, k < 9 → parseFieldDescriptor (TX2 k).2.2.1 = some (tyX2 k) := by decide +kernel
abbrev cX2_init : ByteArray := prog_4_method_1_code
def yX2_init : MethodName := ⟨RX2, "<init>", "()V"⟩
abbrev cX2_forget : ByteArray := prog_4_method_2_code
def yX2_forget : MethodName := ⟨RX2, "forget", "()V"⟩
abbrev cX2_perform : ByteArray := prog_4_method_3_code
def yX2_perform : MethodName := ⟨RX2, "perform", "(LArraySegments$Program;J)V"⟩
abbrev cX2_draw : ByteArray := prog_4_method_4_code
def yX2_draw : MethodName := ⟨RX2, "draw", "()J"⟩
abbrev cX2_drawIsEven : ByteArray := prog_4_method_5_code
def yX2_drawIsEven : MethodName := ⟨RX2, "drawIsEven", "()Z"⟩
abbrev cX2_drawFrom : ByteArray := prog_4_method_6_code
def yX2_drawFrom : MethodName := ⟨RX2, "drawFrom", "(II)I"⟩
abbrev cX2_doAct : ByteArray := prog_4_method_7_code
def yX2_doAct : MethodName := ⟨RX2, "doAct", "(LArraySegments$Program;I)I"⟩
abbrev cX2_doNew : ByteArray := prog_4_method_8_code
def yX2_doNew : MethodName := ⟨RX2, "doNew", "(IIII)I"⟩
abbrev cX2_doClone : ByteArray := prog_4_method_9_code
def yX2_doClone : MethodName := ⟨RX2, "doClone", "(III)I"⟩
abbrev cX2_doWrite : ByteArray := prog_4_method_10_code
def yX2_doWrite : MethodName := ⟨RX2, "doWrite", "(IIII)I"⟩
abbrev cX2_doRead : ByteArray := prog_4_method_11_code
def yX2_doRead : MethodName := ⟨RX2, "doRead", "(IIII)I"⟩
abbrev cX2_doCopy : ByteArray := prog_4_method_12_code
def yX2_doCopy : MethodName := ⟨RX2, "doCopy", "(IIIII)I"⟩
abbrev cX2_doFill : ByteArray := prog_4_method_13_code
def yX2_doFill : MethodName := ⟨RX2, "doFill", "(IIIII)I"⟩
abbrev cX2_doLength : ByteArray := prog_4_method_14_code
def yX2_doLength : MethodName := ⟨RX2, "doLength", "(II)I"⟩
abbrev cX2_placeProblem : ByteArray := prog_4_method_15_code
def yX2_placeProblem : MethodName := ⟨RX2, "placeProblem", "(III)I"⟩
abbrev cX2_castTo : ByteArray := prog_4_method_16_code
def yX2_castTo : MethodName := ⟨RX2, "castTo", "(II)I"⟩
def RX3 : String := "ArraySegments$Program"
def TX3 : u_T := fun k => match k with
  | 0 => ("ArraySegments$Program", "rows", "[I", true)
  | 1 => ("ArraySegments$Program", "dropped", "[Z", true)
  | _ => ("ArraySegments$Program", "count", "I", false)
def tyX3 : Nat → FieldType := fun k => match k with
  | 0 => .array .int
  | 1 => .array .boolean
  | _ => .int
abbrev wsX30 : List Cond := u_ws RX3 TX3 3
theorem nmX3 : ∀ a, a < 3 → ∀ b, b < 3 → a ≠ b → (TX3 a).2.1 ≠ (TX3 b).2.1 := by decide +kernel
theorem tyX3_ok : ∀ k, k < 3 → parseFieldDescriptor (TX3 k).2.2.1 = some (tyX3 k) := by decide +kernel
abbrev cX3_init : ByteArray := prog_5_method_1_code
def yX3_init : MethodName := ⟨RX3, "<init>", "()V"⟩
abbrev cX3_isAct : ByteArray := prog_5_method_2_code
def yX3_isAct : MethodName := ⟨RX3, "isAct", "(IIIIII)Z"⟩
abbrev cX3_hasAct : ByteArray := prog_5_method_3_code
def yX3_hasAct : MethodName := ⟨RX3, "hasAct", "(I)Z"⟩
abbrev cX3_append : ByteArray := prog_5_method_4_code
def yX3_append : MethodName := ⟨RX3, "append", "(IIIIII)I"⟩
abbrev cX3_removeAll : ByteArray := prog_5_method_5_code
def yX3_removeAll : MethodName := ⟨RX3, "removeAll", "()V"⟩
abbrev cX3_countKept : ByteArray := prog_5_method_6_code
def yX3_countKept : MethodName := ⟨RX3, "countKept", "()I"⟩
abbrev cX3_kindOf : ByteArray := prog_5_method_7_code
def yX3_kindOf : MethodName := ⟨RX3, "kindOf", "(I)I"⟩
abbrev cX3_a : ByteArray := prog_5_method_8_code
def yX3_a : MethodName := ⟨RX3, "a", "(I)I"⟩
abbrev cX3_b : ByteArray := prog_5_method_9_code
def yX3_b : MethodName := ⟨RX3, "b", "(I)I"⟩
abbrev cX3_c : ByteArray := prog_5_method_10_code
def yX3_c : MethodName := ⟨RX3, "c", "(I)I"⟩
abbrev cX3_d : ByteArray := prog_5_method_11_code
def yX3_d : MethodName := ⟨RX3, "d", "(I)I"⟩
abbrev cX3_e : ByteArray := prog_5_method_12_code
def yX3_e : MethodName := ⟨RX3, "e", "(I)I"⟩
def RX4 : String := "ArraySegments"
def TX4 : u_T := fun k => match k with
  | 0 => ("ArraySegments", "program", "LArraySegments$Program;", true)
  | 1 => ("ArraySegments", "flow", "LArraySegments$Flow;", true)
  | 2 => ("ArraySegments", "machine", "LArraySegments$Machine;", true)
  | _ => ("ArraySegments", "lastStatus", "I", false)
def tyX4 : Nat → FieldType := fun k => match k with
  | 0 => .object "ArraySegments$Program"
  | 1 => .object "ArraySegments$Flow"
  | 2 => .object "ArraySegments$Machine"
  | _ => .int
abbrev wsX40 : List Cond := u_ws RX4 TX4 4
theorem nmX4 : ∀ a, a < 4 → ∀ b, b < 4 → a ≠ b → (TX4 a).2.1 ≠ (TX4 b).2.1 := by decide +kernel
theorem tyX4_ok : ∀ k, k < 4 → parseFieldDescriptor (TX4 k).2.2.1 = some (tyX4 k) := by decide +kernel
abbrev cX4_init : ByteArray := prog_1_method_1_code
def yX4_init : MethodName := ⟨RX4, "<init>", "()V"⟩
abbrev cX4_clear : ByteArray := prog_1_method_2_code
def yX4_clear : MethodName := ⟨RX4, "clear", "()I"⟩
abbrev cX4_act : ByteArray := prog_1_method_3_code
def yX4_act : MethodName := ⟨RX4, "act", "(IIIIII)I"⟩
abbrev cX4_drop : ByteArray := prog_1_method_4_code
def yX4_drop : MethodName := ⟨RX4, "drop", "(I)I"⟩
abbrev cX4_reached : ByteArray := prog_1_method_5_code
def yX4_reached : MethodName := ⟨RX4, "reached", "(I)I"⟩
abbrev cX4_throwsAt : ByteArray := prog_1_method_6_code
def yX4_throwsAt : MethodName := ⟨RX4, "throwsAt", "(I)I"⟩
abbrev cX4_ends : ByteArray := prog_1_method_7_code
def yX4_ends : MethodName := ⟨RX4, "ends", "()I"⟩
abbrev cX4_variable : ByteArray := prog_1_method_8_code
def yX4_variable : MethodName := ⟨RX4, "variable", "(II)I"⟩
abbrev cX4_reference : ByteArray := prog_1_method_9_code
def yX4_reference : MethodName := ⟨RX4, "reference", "(I)I"⟩
abbrev cX4_means : ByteArray := prog_1_method_10_code
def yX4_means : MethodName := ⟨RX4, "means", "(II)I"⟩
abbrev cX4_array : ByteArray := prog_1_method_11_code
def yX4_array : MethodName := ⟨RX4, "array", "(II)I"⟩
abbrev cX4_segment : ByteArray := prog_1_method_12_code
def yX4_segment : MethodName := ⟨RX4, "segment", "(III)I"⟩
abbrev cX4_status : ByteArray := prog_1_method_13_code
def yX4_status : MethodName := ⟨RX4, "status", "()I"⟩
abbrev cX4_run : ByteArray := prog_1_method_14_code
def yX4_run : MethodName := ⟨RX4, "run", "(J)I"⟩
abbrev cX4_where : ByteArray := prog_1_method_15_code
def yX4_where : MethodName := ⟨RX4, "where", "()I"⟩
abbrev cX4_value : ByteArray := prog_1_method_16_code
def yX4_value : MethodName := ⟨RX4, "value", "(I)I"⟩
abbrev cX4_place : ByteArray := prog_1_method_17_code
def yX4_place : MethodName := ⟨RX4, "place", "(II)I"⟩
abbrev cX4_length : ByteArray := prog_1_method_18_code
def yX4_length : MethodName := ⟨RX4, "length", "(I)I"⟩
abbrev cX4_same : ByteArray := prog_1_method_19_code
def yX4_same : MethodName := ⟨RX4, "same", "(II)I"⟩
abbrev cX4_holds : ByteArray := prog_1_method_20_code
def yX4_holds : MethodName := ⟨RX4, "holds", "(J)I"⟩
abbrev cX4_told : ByteArray := prog_1_method_21_code
def yX4_told : MethodName := ⟨RX4, "told", "(I)I"⟩
abbrev cX4_programChanged : ByteArray := prog_1_method_22_code
def yX4_programChanged : MethodName := ⟨RX4, "programChanged", "()V"⟩
abbrev cX4_refuse : ByteArray := prog_1_method_23_code
def yX4_refuse : MethodName := ⟨RX4, "refuse", "(I)I"⟩
abbrev cX4_tell : ByteArray := prog_1_method_24_code
def yX4_tell : MethodName := ⟨RX4, "tell", "(I)I"⟩
abbrev cX4_throwHolds : ByteArray := prog_1_method_25_code
def yX4_throwHolds : MethodName := ⟨RX4, "throwHolds", "()Z"⟩
abbrev cX4_endHolds : ByteArray := prog_1_method_26_code
def yX4_endHolds : MethodName := ⟨RX4, "endHolds", "()Z"⟩
abbrev cX4_referenceHolds : ByteArray := prog_1_method_27_code
def yX4_referenceHolds : MethodName := ⟨RX4, "referenceHolds", "(I)Z"⟩
abbrev cX4_arrayHolds : ByteArray := prog_1_method_28_code
def yX4_arrayHolds : MethodName := ⟨RX4, "arrayHolds", "(I)Z"⟩
abbrev cX4_isVariable : ByteArray := prog_1_method_29_code
def yX4_isVariable : MethodName := ⟨RX4, "isVariable", "(I)Z"⟩
abbrev cX4_isReference : ByteArray := prog_1_method_30_code
def yX4_isReference : MethodName := ⟨RX4, "isReference", "(I)Z"⟩
abbrev cX4_isLane : ByteArray := prog_1_method_31_code
def yX4_isLane : MethodName := ⟨RX4, "isLane", "(I)Z"⟩
abbrev cX4_isNumber : ByteArray := prog_1_method_32_code
def yX4_isNumber : MethodName := ⟨RX4, "isNumber", "(I)Z"⟩
abbrev cX4_isIn : ByteArray := prog_1_method_33_code
def yX4_isIn : MethodName := ⟨RX4, "isIn", "(JI)Z"⟩
abbrev cX4_leastOfLane : ByteArray := prog_1_method_34_code
def yX4_leastOfLane : MethodName := ⟨RX4, "leastOfLane", "(I)I"⟩
abbrev cX4_greatestOfLane : ByteArray := prog_1_method_35_code
def yX4_greatestOfLane : MethodName := ⟨RX4, "greatestOfLane", "(I)I"⟩
def RX5 : String := "ArraySegmentsModel"
def TX5 : u_T := fun k => match k with
  | 0 => ("ArraySegmentsModel", "acts", "I", false)
  | 1 => ("ArraySegmentsModel", "kind", "[I", true)
  | 2 => ("ArraySegmentsModel", "na", "[I", true)
  | 3 => ("ArraySegmentsModel", "nb", "[I", true)
  | 4 => ("ArraySegmentsModel", "nc", "[I", true)
  | 5 => ("ArraySegmentsModel", "nd", "[I", true)
  | 6 => ("ArraySegmentsModel", "ne", "[I", true)
  | 7 => ("ArraySegmentsModel", "dropped", "[Z", true)
  | 8 => ("ArraySegmentsModel", "live", "[Z", true)
  | 9 => ("ArraySegmentsModel", "low", "[J", true)
  | 10 => ("ArraySegmentsModel", "high", "[J", true)
  | 11 => ("ArraySegmentsModel", "sites", "[J", true)
  | 12 => ("ArraySegmentsModel", "nulls", "[Z", true)
  | 13 => ("ArraySegmentsModel", "there", "[Z", true)
  | 14 => ("ArraySegmentsModel", "lanes", "[I", true)
  | 15 => ("ArraySegmentsModel", "least", "[J", true)
  | 16 => ("ArraySegmentsModel", "most", "[J", true)
  | 17 => ("ArraySegmentsModel", "placeLow", "[J", true)
  | 18 => ("ArraySegmentsModel", "placeHigh", "[J", true)
  | 19 => ("ArraySegmentsModel", "reached", "[Z", true)
  | 20 => ("ArraySegmentsModel", "mayThrow", "[I", true)
  | 21 => ("ArraySegmentsModel", "status", "I", false)
  | 22 => ("ArraySegmentsModel", "hasRun", "Z", false)
  | 23 => ("ArraySegmentsModel", "threw", "I", false)
  | 24 => ("ArraySegmentsModel", "whereThrown", "I", false)
  | 25 => ("ArraySegmentsModel", "value", "[I", true)
  | 26 => ("ArraySegmentsModel", "means", "[I", true)
  | 27 => ("ArraySegmentsModel", "laneOf", "[I", true)
  | 28 => ("ArraySegmentsModel", "sizeOf", "[I", true)
  | 29 => ("ArraySegmentsModel", "cells", "[I", true)
  | 30 => ("ArraySegmentsModel", "copied", "[I", true)
  | 31 => ("ArraySegmentsModel", "state", "J", false)
  | 32 => ("ArraySegmentsModel", "joinedLow", "J", false)
  | 33 => ("ArraySegmentsModel", "joinedHigh", "J", false)
  | 34 => ("ArraySegmentsModel", "keptLow", "[J", true)
  | _ => ("ArraySegmentsModel", "keptHigh", "[J", true)
def tyX5 : Nat → FieldType := fun k => match k with
  | 0 => .int
  | 1 => .array .int
  | 2 => .array .int
  | 3 => .array .int
  | 4 => .array .int
  | 5 => .array .int
  | 6 => .array .int
  | 7 => .array .boolean
  | 8 => .array .boolean
  | 9 => .array .long
  | 10 => .array .long
  | 11 => .array .long
  | 12 => .array .boolean
  | 13 => .array .boolean
  | 14 => .array .int
  | 15 => .array .long
  | 16 => .array .long
  | 17 => .array .long
  | 18 => .array .long
  | 19 => .array .boolean
  | 20 => .array .int
  | 21 => .int
  | 22 => .boolean
  | 23 => .int
  | 24 => .int
  | 25 => .array .int
  | 26 => .array .int
  | 27 => .array .int
  | 28 => .array .int
  | 29 => .array .int
  | 30 => .array .int
  | 31 => .long
  | 32 => .long
  | 33 => .long
  | 34 => .array .long
  | _ => .array .long
abbrev wsX50 : List Cond := u_ws RX5 TX5 36
theorem nmX5 : ∀ a, a < 36 → ∀ b, b < 36 → a ≠ b → (TX5 a).2.1 ≠ (TX5 b).2.1 := by decide +kernel
theorem tyX5_ok : ∀ k, k < 36 → parseFieldDescriptor (TX5 k).2.2.1 = some (tyX5 k) := by decide +kernel
abbrev cX5_init : ByteArray := prog_7_method_1_code
def yX5_init : MethodName := ⟨RX5, "<init>", "()V"⟩
abbrev cX5_forget : ByteArray := prog_7_method_2_code
def yX5_forget : MethodName := ⟨RX5, "forget", "()V"⟩
abbrev cX5_clear : ByteArray := prog_7_method_3_code
def yX5_clear : MethodName := ⟨RX5, "clear", "()I"⟩
abbrev cX5_isName : ByteArray := prog_7_method_4_code
def yX5_isName : MethodName := ⟨RX5, "isName", "(I)Z"⟩
abbrev cX5_isLane : ByteArray := prog_7_method_5_code
def yX5_isLane : MethodName := ⟨RX5, "isLane", "(I)Z"⟩
abbrev cX5_isNumber : ByteArray := prog_7_method_6_code
def yX5_isNumber : MethodName := ⟨RX5, "isNumber", "(I)Z"⟩
abbrev cX5_isAct : ByteArray := prog_7_method_7_code
def yX5_isAct : MethodName := ⟨RX5, "isAct", "(IIIIII)Z"⟩
abbrev cX5_act : ByteArray := prog_7_method_8_code
def yX5_act : MethodName := ⟨RX5, "act", "(IIIIII)I"⟩
abbrev cX5_drop : ByteArray := prog_7_method_9_code
def yX5_drop : MethodName := ⟨RX5, "drop", "(I)I"⟩
abbrev cX5_laneLow : ByteArray := prog_7_method_10_code
def yX5_laneLow : MethodName := ⟨RX5, "laneLow", "(I)J"⟩
abbrev cX5_laneHigh : ByteArray := prog_7_method_11_code
def yX5_laneHigh : MethodName := ⟨RX5, "laneHigh", "(I)J"⟩
abbrev cX5_castLow : ByteArray := prog_7_method_12_code
def yX5_castLow : MethodName := ⟨RX5, "castLow", "(JJI)J"⟩
abbrev cX5_castHigh : ByteArray := prog_7_method_13_code
def yX5_castHigh : MethodName := ⟨RX5, "castHigh", "(JJI)J"⟩
abbrev cX5_setSpan : ByteArray := prog_7_method_14_code
def yX5_setSpan : MethodName := ⟨RX5, "setSpan", "(IJJ)V"⟩
abbrev cX5_has : ByteArray := prog_7_method_15_code
def yX5_has : MethodName := ⟨RX5, "has", "(II)Z"⟩
abbrev cX5_copyBank : ByteArray := prog_7_method_16_code
def yX5_copyBank : MethodName := ⟨RX5, "copyBank", "(II)V"⟩
abbrev cX5_copySite : ByteArray := prog_7_method_17_code
def yX5_copySite : MethodName := ⟨RX5, "copySite", "(II)V"⟩
abbrev cX5_joinPlace : ByteArray := prog_7_method_18_code
def yX5_joinPlace : MethodName := ⟨RX5, "joinPlace", "(IIJJ)V"⟩
abbrev cX5_joinSite : ByteArray := prog_7_method_19_code
def yX5_joinSite : MethodName := ⟨RX5, "joinSite", "(II)V"⟩
abbrev cX5_join : ByteArray := prog_7_method_20_code
def yX5_join : MethodName := ⟨RX5, "join", "()V"⟩
abbrev cX5_flow : ByteArray := prog_7_method_21_code
def yX5_flow : MethodName := ⟨RX5, "flow", "()V"⟩
abbrev cX5_mark : ByteArray := prog_7_method_22_code
def yX5_mark : MethodName := ⟨RX5, "mark", "(IIZ)V"⟩
abbrev cX5_use : ByteArray := prog_7_method_23_code
def yX5_use : MethodName := ⟨RX5, "use", "(I)V"⟩
abbrev cX5_narrow : ByteArray := prog_7_method_24_code
def yX5_narrow : MethodName := ⟨RX5, "narrow", "(IJJ)V"⟩
abbrev cX5_leastLength : ByteArray := prog_7_method_25_code
def yX5_leastLength : MethodName := ⟨RX5, "leastLength", "(I)J"⟩
abbrev cX5_mostLength : ByteArray := prog_7_method_26_code
def yX5_mostLength : MethodName := ⟨RX5, "mostLength", "(I)J"⟩
abbrev cX5_lanesOf : ByteArray := prog_7_method_27_code
def yX5_lanesOf : MethodName := ⟨RX5, "lanesOf", "(I)I"⟩
abbrev cX5_only : ByteArray := prog_7_method_28_code
def yX5_only : MethodName := ⟨RX5, "only", "(I)I"⟩
abbrev cX5_step : ByteArray := prog_7_method_29_code
def yX5_step : MethodName := ⟨RX5, "step", "(I)V"⟩
abbrev cX5_mean : ByteArray := prog_7_method_30_code
def yX5_mean : MethodName := ⟨RX5, "mean", "(II)V"⟩
abbrev cX5_made : ByteArray := prog_7_method_31_code
def yX5_made : MethodName := ⟨RX5, "made", "(I)V"⟩
abbrev cX5_cloned : ByteArray := prog_7_method_32_code
def yX5_cloned : MethodName := ⟨RX5, "cloned", "(I)V"⟩
abbrev cX5_usePlace : ByteArray := prog_7_method_33_code
def yX5_usePlace : MethodName := ⟨RX5, "usePlace", "(IIII)V"⟩
abbrev cX5_written : ByteArray := prog_7_method_34_code
def yX5_written : MethodName := ⟨RX5, "written", "(I)V"⟩
abbrev cX5_gather : ByteArray := prog_7_method_35_code
def yX5_gather : MethodName := ⟨RX5, "gather", "(IJJ)V"⟩
abbrev cX5_read : ByteArray := prog_7_method_36_code
def yX5_read : MethodName := ⟨RX5, "read", "(I)V"⟩
abbrev cX5_moved : ByteArray := prog_7_method_37_code
def yX5_moved : MethodName := ⟨RX5, "moved", "(I)V"⟩
abbrev cX5_strong : ByteArray := prog_7_method_38_code
def yX5_strong : MethodName := ⟨RX5, "strong", "(IIJJJ)V"⟩
abbrev cX5_filled : ByteArray := prog_7_method_39_code
def yX5_filled : MethodName := ⟨RX5, "filled", "(I)V"⟩
abbrev cX5_measured : ByteArray := prog_7_method_40_code
def yX5_measured : MethodName := ⟨RX5, "measured", "(I)V"⟩
abbrev cX5_reached : ByteArray := prog_7_method_41_code
def yX5_reached : MethodName := ⟨RX5, "reached", "(I)I"⟩
abbrev cX5_throwsAt : ByteArray := prog_7_method_42_code
def yX5_throwsAt : MethodName := ⟨RX5, "throwsAt", "(I)I"⟩
abbrev cX5_ends : ByteArray := prog_7_method_43_code
def yX5_ends : MethodName := ⟨RX5, "ends", "()I"⟩
abbrev cX5_tell : ByteArray := prog_7_method_44_code
def yX5_tell : MethodName := ⟨RX5, "tell", "(J)I"⟩
abbrev cX5_refuse : ByteArray := prog_7_method_45_code
def yX5_refuse : MethodName := ⟨RX5, "refuse", "(I)I"⟩
abbrev cX5_variable : ByteArray := prog_7_method_46_code
def yX5_variable : MethodName := ⟨RX5, "variable", "(II)I"⟩
abbrev cX5_reference : ByteArray := prog_7_method_47_code
def yX5_reference : MethodName := ⟨RX5, "reference", "(I)I"⟩
abbrev cX5_means : ByteArray := prog_7_method_48_code
def yX5_means : MethodName := ⟨RX5, "means", "(II)I"⟩
abbrev cX5_barred : ByteArray := prog_7_method_49_code
def yX5_barred : MethodName := ⟨RX5, "barred", "(I)I"⟩
abbrev cX5_isLike : ByteArray := prog_7_method_50_code
def yX5_isLike : MethodName := ⟨RX5, "isLike", "(II)Z"⟩
abbrev cX5_segments : ByteArray := prog_7_method_51_code
def yX5_segments : MethodName := ⟨RX5, "segments", "(I)I"⟩
abbrev cX5_isSorted : ByteArray := prog_7_method_52_code
def yX5_isSorted : MethodName := ⟨RX5, "isSorted", "(I)Z"⟩
abbrev cX5_array : ByteArray := prog_7_method_53_code
def yX5_array : MethodName := ⟨RX5, "array", "(II)I"⟩
abbrev cX5_segment : ByteArray := prog_7_method_54_code
def yX5_segment : MethodName := ⟨RX5, "segment", "(III)I"⟩
abbrev cX5_status : ByteArray := prog_7_method_55_code
def yX5_status : MethodName := ⟨RX5, "status", "()I"⟩
abbrev cX5_draw : ByteArray := prog_7_method_56_code
def yX5_draw : MethodName := ⟨RX5, "draw", "()J"⟩
abbrev cX5_cast : ByteArray := prog_7_method_57_code
def yX5_cast : MethodName := ⟨RX5, "cast", "(II)I"⟩
abbrev cX5_fail : ByteArray := prog_7_method_58_code
def yX5_fail : MethodName := ⟨RX5, "fail", "(II)V"⟩
abbrev cX5_isPlace : ByteArray := prog_7_method_59_code
def yX5_isPlace : MethodName := ⟨RX5, "isPlace", "(IIII)Z"⟩
abbrev cX5_newArray : ByteArray := prog_7_method_60_code
def yX5_newArray : MethodName := ⟨RX5, "newArray", "(IIII)V"⟩
abbrev cX5_run : ByteArray := prog_7_method_61_code
def yX5_run : MethodName := ⟨RX5, "run", "(J)I"⟩
abbrev cX5_work : ByteArray := prog_7_method_62_code
def yX5_work : MethodName := ⟨RX5, "work", "(I)V"⟩
abbrev cX5_workClone : ByteArray := prog_7_method_63_code
def yX5_workClone : MethodName := ⟨RX5, "workClone", "(I)V"⟩
abbrev cX5_workCopy : ByteArray := prog_7_method_64_code
def yX5_workCopy : MethodName := ⟨RX5, "workCopy", "(I)V"⟩
abbrev cX5_workFill : ByteArray := prog_7_method_65_code
def yX5_workFill : MethodName := ⟨RX5, "workFill", "(I)V"⟩
abbrev cX5_where : ByteArray := prog_7_method_66_code
def yX5_where : MethodName := ⟨RX5, "where", "()I"⟩
abbrev cX5_value : ByteArray := prog_7_method_67_code
def yX5_value : MethodName := ⟨RX5, "value", "(I)I"⟩
abbrev cX5_place : ByteArray := prog_7_method_68_code
def yX5_place : MethodName := ⟨RX5, "place", "(II)I"⟩
abbrev cX5_length : ByteArray := prog_7_method_69_code
def yX5_length : MethodName := ⟨RX5, "length", "(I)I"⟩
abbrev cX5_same : ByteArray := prog_7_method_70_code
def yX5_same : MethodName := ⟨RX5, "same", "(II)I"⟩
abbrev cX5_isSo : ByteArray := prog_7_method_71_code
def yX5_isSo : MethodName := ⟨RX5, "isSo", "(I)Z"⟩
abbrev cX5_holds : ByteArray := prog_7_method_72_code
def yX5_holds : MethodName := ⟨RX5, "holds", "(J)I"⟩
abbrev cX5_told : ByteArray := prog_7_method_73_code
def yX5_told : MethodName := ⟨RX5, "told", "(I)I"⟩
def RJ6 : String := "java/lang/Integer"
def TJ6 : u_T := fun k => match k with
  | _ => ("", "", "", false)
def tyJ6 : Nat → FieldType := fun k => match k with
  | _ => .int
abbrev wsJ60 : List Cond := u_ws RJ6 TJ6 0
theorem nmJ6 : ∀ a, a < 0 → ∀ b, b < 0 → a ≠ b → (TJ6 a).2.1 ≠ (TJ6 b).2.1 := by decide +kernel
theorem tyJ6_ok : ∀ k, k < 0 → parseFieldDescriptor (TJ6 k).2.2.1 = some (tyJ6 k) := by decide +kernel
abbrev cJ6_bitCount_0f7a4 : ByteArray := prog_8_method_49_code
def yJ6_bitCount_0f7a4 : MethodName := ⟨RJ6, "bitCount", "(I)I"⟩
def RJ13 : String := "java/lang/Long"
def TJ13 : u_T := fun k => match k with
  | _ => ("", "", "", false)
def tyJ13 : Nat → FieldType := fun k => match k with
  | _ => .int
abbrev wsJ130 : List Cond := u_ws RJ13 TJ13 0
theorem nmJ13 : ∀ a, a < 0 → ∀ b, b < 0 → a ≠ b → (TJ13 a).2.1 ≠ (TJ13 b).2.1 := by decide +kernel
theorem tyJ13_ok : ∀ k, k < 0 → parseFieldDescriptor (TJ13 k).2.2.1 = some (tyJ13 k) := by decide +kernel
abbrev cJ13_bitCount_95d88 : ByteArray := prog_9_method_50_code
def yJ13_bitCount_95d88 : MethodName := ⟨RJ13, "bitCount", "(J)I"⟩
def RJ9 : String := "java/lang/Math"
def TJ9 : u_T := fun k => match k with
  | _ => ("", "", "", false)
def tyJ9 : Nat → FieldType := fun k => match k with
  | _ => .int
abbrev wsJ90 : List Cond := u_ws RJ9 TJ9 0
theorem nmJ9 : ∀ a, a < 0 → ∀ b, b < 0 → a ≠ b → (TJ9 a).2.1 ≠ (TJ9 b).2.1 := by decide +kernel
theorem tyJ9_ok : ∀ k, k < 0 → parseFieldDescriptor (TJ9 k).2.2.1 = some (tyJ9 k) := by decide +kernel
abbrev cJ9_max_7cf53 : ByteArray := prog_10_method_65_code
def yJ9_max_7cf53 : MethodName := ⟨RJ9, "max", "(II)I"⟩
abbrev cJ9_min_7cf53 : ByteArray := prog_10_method_69_code
def yJ9_min_7cf53 : MethodName := ⟨RJ9, "min", "(II)I"⟩
abbrev cJ9_min_f86c9 : ByteArray := prog_10_method_70_code
def yJ9_min_f86c9 : MethodName := ⟨RJ9, "min", "(JJ)J"⟩
def RJ10 : String := "java/lang/System"
def TJ10 : u_T := fun k => match k with
  | _ => ("", "", "", false)
def tyJ10 : Nat → FieldType := fun k => match k with
  | _ => .int
abbrev wsJ100 : List Cond := u_ws RJ10 TJ10 0
theorem nmJ10 : ∀ a, a < 0 → ∀ b, b < 0 → a ≠ b → (TJ10 a).2.1 ≠ (TJ10 b).2.1 := by decide +kernel
theorem tyJ10_ok : ∀ k, k < 0 → parseFieldDescriptor (TJ10 k).2.2.1 = some (tyJ10 k) := by decide +kernel
def RL : String := "ArraySegmentsLaw"
abbrev cL_law : ByteArray := code
def yL_law : MethodName := ⟨RL, "law", "([I)Z"⟩
abbrev vwCl : List vw_C := [(RX0, TX0, 11), (RX1, TX1, 8), (RX2, TX2, 9), (RX3, TX3, 3), (RX4, TX4, 4), (RX5, TX5, 36)]
end
section
theorem dX0_init_0 : decode cX0_init 0 = .ok (.aload_n 0, 1) := by decide +kernel
theorem dX0_init_1 : decode cX0_init 1 = .ok (.invokespecial 3, 3) := by decide +kernel
theorem dX0_init_4 : decode cX0_init 4 = .ok (.aload_n 0, 1) := by decide +kernel
theorem dX0_init_5 : decode cX0_init 5 = .ok (.iconst 0, 1) := by decide +kernel
theorem dX0_init_6 : decode cX0_init 6 = .ok (.putfield 9, 3) := by decide +kernel
theorem dX0_init_9 : decode cX0_init 9 = .ok (.aload_n 0, 1) := by decide +kernel
theorem dX0_init_10 : decode cX0_init 10 = .ok (.bipush 6, 2) := by decide +kernel
theorem dX0_init_12 : decode cX0_init 12 = .ok (.newarray .int, 2) := by decide +kernel
theorem dX0_init_14 : decode cX0_init 14 = .ok (.putfield 15, 3) := by decide +kernel
theorem dX0_init_17 : decode cX0_init 17 = .ok (.aload_n 0, 1) := by decide +kernel
theorem dX0_init_18 : decode cX0_init 18 = .ok (.bipush 6, 2) := by decide +kernel
theorem dX0_init_20 : decode cX0_init 20 = .ok (.newarray .int, 2) := by decide +kernel
theorem dX0_init_22 : decode cX0_init 22 = .ok (.putfield 19, 3) := by decide +kernel
theorem dX0_init_25 : decode cX0_init 25 = .ok (.aload_n 0, 1) := by decide +kernel
theorem dX0_init_26 : decode cX0_init 26 = .ok (.bipush 6, 2) := by decide +kernel
theorem dX0_init_28 : decode cX0_init 28 = .ok (.newarray .long, 2) := by decide +kernel
theorem dX0_init_30 : decode cX0_init 30 = .ok (.putfield 22, 3) := by decide +kernel
theorem dX0_init_33 : decode cX0_init 33 = .ok (.aload_n 0, 1) := by decide +kernel
theorem dX0_init_34 : decode cX0_init 34 = .ok (.bipush 6, 2) := by decide +kernel
theorem dX0_init_36 : decode cX0_init 36 = .ok (.newarray .boolean, 2) := by decide +kernel
theorem dX0_init_38 : decode cX0_init 38 = .ok (.putfield 26, 3) := by decide +kernel
theorem dX0_init_41 : decode cX0_init 41 = .ok (.aload_n 0, 1) := by decide +kernel
theorem dX0_init_42 : decode cX0_init 42 = .ok (.bipush 40, 2) := by decide +kernel
theorem dX0_init_44 : decode cX0_init 44 = .ok (.newarray .boolean, 2) := by decide +kernel
theorem dX0_init_46 : decode cX0_init 46 = .ok (.putfield 30, 3) := by decide +kernel
theorem dX0_init_49 : decode cX0_init 49 = .ok (.aload_n 0, 1) := by decide +kernel
theorem dX0_init_50 : decode cX0_init 50 = .ok (.bipush 40, 2) := by decide +kernel
theorem dX0_init_52 : decode cX0_init 52 = .ok (.newarray .int, 2) := by decide +kernel
theorem dX0_init_54 : decode cX0_init 54 = .ok (.putfield 33, 3) := by decide +kernel
theorem dX0_init_57 : decode cX0_init 57 = .ok (.aload_n 0, 1) := by decide +kernel
theorem dX0_init_58 : decode cX0_init 58 = .ok (.bipush 40, 2) := by decide +kernel
theorem dX0_init_60 : decode cX0_init 60 = .ok (.newarray .int, 2) := by decide +kernel
theorem dX0_init_62 : decode cX0_init 62 = .ok (.putfield 36, 3) := by decide +kernel
theorem dX0_init_65 : decode cX0_init 65 = .ok (.aload_n 0, 1) := by decide +kernel
theorem dX0_init_66 : decode cX0_init 66 = .ok (.bipush 40, 2) := by decide +kernel
theorem dX0_init_68 : decode cX0_init 68 = .ok (.newarray .int, 2) := by decide +kernel
theorem dX0_init_70 : decode cX0_init 70 = .ok (.putfield 39, 3) := by decide +kernel
theorem dX0_init_73 : decode cX0_init 73 = .ok (.aload_n 0, 1) := by decide +kernel
theorem dX0_init_74 : decode cX0_init 74 = .ok (.sipush 480, 3) := by decide +kernel
theorem dX0_init_77 : decode cX0_init 77 = .ok (.newarray .int, 2) := by decide +kernel
theorem dX0_init_79 : decode cX0_init 79 = .ok (.putfield 42, 3) := by decide +kernel
theorem dX0_init_82 : decode cX0_init 82 = .ok (.aload_n 0, 1) := by decide +kernel
theorem dX0_init_83 : decode cX0_init 83 = .ok (.sipush 480, 3) := by decide +kernel
theorem dX0_init_86 : decode cX0_init 86 = .ok (.newarray .int, 2) := by decide +kernel
theorem dX0_init_88 : decode cX0_init 88 = .ok (.putfield 45, 3) := by decide +kernel
theorem dX0_init_91 : decode cX0_init 91 = .ok (.return_, 1) := by decide +kernel
theorem dX0_setSpan_0 : decode cX0_setSpan 0 = .ok (.aload_n 0, 1) := by decide +kernel
theorem dX0_setSpan_1 : decode cX0_setSpan 1 = .ok (.getfield 15, 3) := by decide +kernel
theorem dX0_setSpan_4 : decode cX0_setSpan 4 = .ok (.iload_n 1, 1) := by decide +kernel
theorem dX0_setSpan_5 : decode cX0_setSpan 5 = .ok (.iload_n 2, 1) := by decide +kernel
theorem dX0_setSpan_6 : decode cX0_setSpan 6 = .ok (.iastore, 1) := by decide +kernel
theorem dX0_setSpan_7 : decode cX0_setSpan 7 = .ok (.aload_n 0, 1) := by decide +kernel
theorem dX0_setSpan_8 : decode cX0_setSpan 8 = .ok (.getfield 19, 3) := by decide +kernel
theorem dX0_setSpan_11 : decode cX0_setSpan 11 = .ok (.iload_n 1, 1) := by decide +kernel
theorem dX0_setSpan_12 : decode cX0_setSpan 12 = .ok (.iload_n 3, 1) := by decide +kernel
theorem dX0_setSpan_13 : decode cX0_setSpan 13 = .ok (.iastore, 1) := by decide +kernel
theorem dX0_setSpan_14 : decode cX0_setSpan 14 = .ok (.return_, 1) := by decide +kernel
theorem dX0_begin_0 : decode cX0_begin 0 = .ok (.aload_n 0, 1) := by decide +kernel
theorem dX0_begin_1 : decode cX0_begin 1 = .ok (.iconst 1, 1) := by decide +kernel
theorem dX0_begin_2 : decode cX0_begin 2 = .ok (.putfield 9, 3) := by decide +kernel
theorem dX0_begin_5 : decode cX0_begin 5 = .ok (.iconst 0, 1) := by decide +kernel
theorem dX0_begin_6 : decode cX0_begin 6 = .ok (.istore_n 1, 1) := by decide +kernel
theorem dX0_begin_7 : decode cX0_begin 7 = .ok (.iload_n 1, 1) := by decide +kernel
theorem dX0_begin_8 : decode cX0_begin 8 = .ok (.bipush 6, 2) := by decide +kernel
theorem dX0_begin_10 : decode cX0_begin 10 = .ok (.if_icmp .ge 16, 3) := by decide +kernel
theorem dX0_begin_13 : decode cX0_begin 13 = .ok (.aload_n 0, 1) := by decide +kernel
theorem dX0_begin_14 : decode cX0_begin 14 = .ok (.iload_n 1, 1) := by decide +kernel
theorem dX0_begin_15 : decode cX0_begin 15 = .ok (.iconst 0, 1) := by decide +kernel
theorem dX0_begin_16 : decode cX0_begin 16 = .ok (.iconst 0, 1) := by decide +kernel
theorem dX0_begin_17 : decode cX0_begin 17 = .ok (.invokevirtual 48, 3) := by decide +kernel
theorem dX0_begin_20 : decode cX0_begin 20 = .ok (.iinc 1 1, 3) := by decide +kernel
theorem dX0_begin_23 : decode cX0_begin 23 = .ok (.goto (-16), 3) := by decide +kernel
theorem dX0_begin_26 : decode cX0_begin 26 = .ok (.iconst 0, 1) := by decide +kernel
theorem dX0_begin_27 : decode cX0_begin 27 = .ok (.istore_n 1, 1) := by decide +kernel
theorem dX0_begin_28 : decode cX0_begin 28 = .ok (.iload_n 1, 1) := by decide +kernel
theorem dX0_begin_29 : decode cX0_begin 29 = .ok (.bipush 6, 2) := by decide +kernel
theorem dX0_begin_31 : decode cX0_begin 31 = .ok (.if_icmp .ge 23, 3) := by decide +kernel
theorem dX0_begin_34 : decode cX0_begin 34 = .ok (.aload_n 0, 1) := by decide +kernel
theorem dX0_begin_35 : decode cX0_begin 35 = .ok (.getfield 22, 3) := by decide +kernel
theorem dX0_begin_38 : decode cX0_begin 38 = .ok (.iload_n 1, 1) := by decide +kernel
theorem dX0_begin_39 : decode cX0_begin 39 = .ok (.lconst 0, 1) := by decide +kernel
theorem dX0_begin_40 : decode cX0_begin 40 = .ok (.lastore, 1) := by decide +kernel
theorem dX0_begin_41 : decode cX0_begin 41 = .ok (.aload_n 0, 1) := by decide +kernel
theorem dX0_begin_42 : decode cX0_begin 42 = .ok (.getfield 26, 3) := by decide +kernel
theorem dX0_begin_45 : decode cX0_begin 45 = .ok (.iload_n 1, 1) := by decide +kernel
theorem dX0_begin_46 : decode cX0_begin 46 = .ok (.iconst 1, 1) := by decide +kernel
theorem dX0_begin_47 : decode cX0_begin 47 = .ok (.bastore, 1) := by decide +kernel
theorem dX0_begin_48 : decode cX0_begin 48 = .ok (.iinc 1 1, 3) := by decide +kernel
theorem dX0_begin_51 : decode cX0_begin 51 = .ok (.goto (-23), 3) := by decide +kernel
theorem dX0_begin_54 : decode cX0_begin 54 = .ok (.iconst 0, 1) := by decide +kernel
theorem dX0_begin_55 : decode cX0_begin 55 = .ok (.istore_n 1, 1) := by decide +kernel
theorem dX0_begin_56 : decode cX0_begin 56 = .ok (.iload_n 1, 1) := by decide +kernel
theorem dX0_begin_57 : decode cX0_begin 57 = .ok (.bipush 40, 2) := by decide +kernel
theorem dX0_begin_59 : decode cX0_begin 59 = .ok (.if_icmp .ge 16, 3) := by decide +kernel
theorem dX0_begin_62 : decode cX0_begin 62 = .ok (.aload_n 0, 1) := by decide +kernel
theorem dX0_begin_63 : decode cX0_begin 63 = .ok (.getfield 30, 3) := by decide +kernel
theorem dX0_begin_66 : decode cX0_begin 66 = .ok (.iload_n 1, 1) := by decide +kernel
theorem dX0_begin_67 : decode cX0_begin 67 = .ok (.iconst 0, 1) := by decide +kernel
theorem dX0_begin_68 : decode cX0_begin 68 = .ok (.bastore, 1) := by decide +kernel
theorem dX0_begin_69 : decode cX0_begin 69 = .ok (.iinc 1 1, 3) := by decide +kernel
theorem dX0_begin_72 : decode cX0_begin 72 = .ok (.goto (-16), 3) := by decide +kernel
theorem dX0_begin_75 : decode cX0_begin 75 = .ok (.return_, 1) := by decide +kernel
theorem dX0_countKnown_0 : decode cX0_countKnown 0 = .ok (.iconst 0, 1) := by decide +kernel
theorem dX0_countKnown_1 : decode cX0_countKnown 1 = .ok (.istore_n 1, 1) := by decide +kernel
theorem dX0_countKnown_2 : decode cX0_countKnown 2 = .ok (.iconst 0, 1) := by decide +kernel
theorem dX0_countKnown_3 : decode cX0_countKnown 3 = .ok (.istore_n 2, 1) := by decide +kernel
theorem dX0_countKnown_4 : decode cX0_countKnown 4 = .ok (.iload_n 2, 1) := by decide +kernel
theorem dX0_countKnown_5 : decode cX0_countKnown 5 = .ok (.bipush 40, 2) := by decide +kernel
theorem dX0_countKnown_7 : decode cX0_countKnown 7 = .ok (.if_icmp .ge 21, 3) := by decide +kernel
theorem dX0_countKnown_10 : decode cX0_countKnown 10 = .ok (.aload_n 0, 1) := by decide +kernel
theorem dX0_countKnown_11 : decode cX0_countKnown 11 = .ok (.getfield 30, 3) := by decide +kernel
theorem dX0_countKnown_14 : decode cX0_countKnown 14 = .ok (.iload_n 2, 1) := by decide +kernel
theorem dX0_countKnown_15 : decode cX0_countKnown 15 = .ok (.baload, 1) := by decide +kernel
theorem dX0_countKnown_16 : decode cX0_countKnown 16 = .ok (.ifCond .eq 6, 3) := by decide +kernel
theorem dX0_countKnown_19 : decode cX0_countKnown 19 = .ok (.iinc 1 1, 3) := by decide +kernel
theorem dX0_countKnown_22 : decode cX0_countKnown 22 = .ok (.iinc 2 1, 3) := by decide +kernel
theorem dX0_countKnown_25 : decode cX0_countKnown 25 = .ok (.goto (-21), 3) := by decide +kernel
theorem dX0_countKnown_28 : decode cX0_countKnown 28 = .ok (.iload_n 1, 1) := by decide +kernel
theorem dX0_countKnown_29 : decode cX0_countKnown 29 = .ok (.ireturn, 1) := by decide +kernel
theorem dX1_init_0 : decode cX1_init 0 = .ok (.aload_n 0, 1) := by decide +kernel
theorem dX1_init_1 : decode cX1_init 1 = .ok (.invokespecial 3, 3) := by decide +kernel
theorem dX1_init_4 : decode cX1_init 4 = .ok (.aload_n 0, 1) := by decide +kernel
theorem dX1_init_5 : decode cX1_init 5 = .ok (.new 9, 3) := by decide +kernel
theorem dX1_init_8 : decode cX1_init 8 = .ok (.dup, 1) := by decide +kernel
theorem dX1_init_9 : decode cX1_init 9 = .ok (.invokespecial 11, 3) := by decide +kernel
theorem dX1_init_12 : decode cX1_init 12 = .ok (.putfield 12, 3) := by decide +kernel
theorem dX1_init_15 : decode cX1_init 15 = .ok (.aload_n 0, 1) := by decide +kernel
theorem dX1_init_16 : decode cX1_init 16 = .ok (.new 9, 3) := by decide +kernel
theorem dX1_init_19 : decode cX1_init 19 = .ok (.dup, 1) := by decide +kernel
theorem dX1_init_20 : decode cX1_init 20 = .ok (.invokespecial 11, 3) := by decide +kernel
theorem dX1_init_23 : decode cX1_init 23 = .ok (.putfield 18, 3) := by decide +kernel
theorem dX1_init_26 : decode cX1_init 26 = .ok (.aload_n 0, 1) := by decide +kernel
theorem dX1_init_27 : decode cX1_init 27 = .ok (.iconst 1, 1) := by decide +kernel
theorem dX1_init_28 : decode cX1_init 28 = .ok (.putfield 21, 3) := by decide +kernel
theorem dX1_init_31 : decode cX1_init 31 = .ok (.aload_n 0, 1) := by decide +kernel
theorem dX1_init_32 : decode cX1_init 32 = .ok (.bipush 40, 2) := by decide +kernel
theorem dX1_init_34 : decode cX1_init 34 = .ok (.newarray .boolean, 2) := by decide +kernel
theorem dX1_init_36 : decode cX1_init 36 = .ok (.putfield 25, 3) := by decide +kernel
theorem dX1_init_39 : decode cX1_init 39 = .ok (.aload_n 0, 1) := by decide +kernel
theorem dX1_init_40 : decode cX1_init 40 = .ok (.bipush 40, 2) := by decide +kernel
theorem dX1_init_42 : decode cX1_init 42 = .ok (.newarray .int, 2) := by decide +kernel
theorem dX1_init_44 : decode cX1_init 44 = .ok (.putfield 29, 3) := by decide +kernel
theorem dX1_init_47 : decode cX1_init 47 = .ok (.aload_n 0, 1) := by decide +kernel
theorem dX1_init_48 : decode cX1_init 48 = .ok (.iconst 0, 1) := by decide +kernel
theorem dX1_init_49 : decode cX1_init 49 = .ok (.putfield 33, 3) := by decide +kernel
theorem dX1_init_52 : decode cX1_init 52 = .ok (.aload_n 0, 1) := by decide +kernel
theorem dX1_init_53 : decode cX1_init 53 = .ok (.iconst 0, 1) := by decide +kernel
theorem dX1_init_54 : decode cX1_init 54 = .ok (.putfield 36, 3) := by decide +kernel
theorem dX1_init_57 : decode cX1_init 57 = .ok (.aload_n 0, 1) := by decide +kernel
theorem dX1_init_58 : decode cX1_init 58 = .ok (.iconst 0, 1) := by decide +kernel
theorem dX1_init_59 : decode cX1_init 59 = .ok (.putfield 40, 3) := by decide +kernel
theorem dX1_init_62 : decode cX1_init 62 = .ok (.return_, 1) := by decide +kernel
theorem dX1_follow_0 : decode cX1_follow 0 = .ok (.aload_n 0, 1) := by decide +kernel
theorem dX1_follow_1 : decode cX1_follow 1 = .ok (.getfield 21, 3) := by decide +kernel
theorem dX1_follow_4 : decode cX1_follow 4 = .ok (.ifCond .ne 4, 3) := by decide +kernel
theorem dX1_follow_7 : decode cX1_follow 7 = .ok (.return_, 1) := by decide +kernel
theorem dX1_follow_8 : decode cX1_follow 8 = .ok (.aload_n 0, 1) := by decide +kernel
theorem dX1_follow_9 : decode cX1_follow 9 = .ok (.iconst 0, 1) := by decide +kernel
theorem dX1_follow_10 : decode cX1_follow 10 = .ok (.putfield 21, 3) := by decide +kernel
theorem dX1_follow_13 : decode cX1_follow 13 = .ok (.aload_n 0, 1) := by decide +kernel
theorem dX1_follow_14 : decode cX1_follow 14 = .ok (.getfield 12, 3) := by decide +kernel
theorem dX1_follow_17 : decode cX1_follow 17 = .ok (.invokevirtual 43, 3) := by decide +kernel
theorem dX1_follow_20 : decode cX1_follow 20 = .ok (.iconst 0, 1) := by decide +kernel
theorem dX1_follow_21 : decode cX1_follow 21 = .ok (.istore_n 2, 1) := by decide +kernel
theorem dX1_follow_22 : decode cX1_follow 22 = .ok (.iconst 0, 1) := by decide +kernel
theorem dX1_follow_23 : decode cX1_follow 23 = .ok (.istore_n 3, 1) := by decide +kernel
theorem dX1_follow_24 : decode cX1_follow 24 = .ok (.iload_n 3, 1) := by decide +kernel
theorem dX1_follow_25 : decode cX1_follow 25 = .ok (.bipush 40, 2) := by decide +kernel
theorem dX1_follow_27 : decode cX1_follow 27 = .ok (.if_icmp .ge 152, 3) := by decide +kernel
theorem dX1_follow_30 : decode cX1_follow 30 = .ok (.aload_n 1, 1) := by decide +kernel
theorem dX1_follow_31 : decode cX1_follow 31 = .ok (.iload_n 3, 1) := by decide +kernel
theorem dX1_follow_32 : decode cX1_follow 32 = .ok (.invokevirtual 46, 3) := by decide +kernel
theorem dX1_follow_35 : decode cX1_follow 35 = .ok (.ifCond .eq 16, 3) := by decide +kernel
theorem dX1_follow_38 : decode cX1_follow 38 = .ok (.aload_n 1, 1) := by decide +kernel
theorem dX1_follow_39 : decode cX1_follow 39 = .ok (.getfield 52, 3) := by decide +kernel
theorem dX1_follow_42 : decode cX1_follow 42 = .ok (.iload_n 3, 1) := by decide +kernel
theorem dX1_follow_43 : decode cX1_follow 43 = .ok (.baload, 1) := by decide +kernel
theorem dX1_follow_44 : decode cX1_follow 44 = .ok (.ifCond .ne 7, 3) := by decide +kernel
theorem dX1_follow_47 : decode cX1_follow 47 = .ok (.iconst 1, 1) := by decide +kernel
theorem dX1_follow_48 : decode cX1_follow 48 = .ok (.goto 4, 3) := by decide +kernel
theorem dX1_follow_51 : decode cX1_follow 51 = .ok (.iconst 0, 1) := by decide +kernel
theorem dX1_follow_52 : decode cX1_follow 52 = .ok (.istore 4, 2) := by decide +kernel
theorem dX1_follow_54 : decode cX1_follow 54 = .ok (.aload_n 0, 1) := by decide +kernel
theorem dX1_follow_55 : decode cX1_follow 55 = .ok (.getfield 25, 3) := by decide +kernel
theorem dX1_follow_58 : decode cX1_follow 58 = .ok (.iload_n 3, 1) := by decide +kernel
theorem dX1_follow_59 : decode cX1_follow 59 = .ok (.iload 4, 2) := by decide +kernel
theorem dX1_follow_61 : decode cX1_follow 61 = .ok (.ifCond .eq 17, 3) := by decide +kernel
theorem dX1_follow_64 : decode cX1_follow 64 = .ok (.aload_n 0, 1) := by decide +kernel
theorem dX1_follow_65 : decode cX1_follow 65 = .ok (.getfield 12, 3) := by decide +kernel
theorem dX1_follow_68 : decode cX1_follow 68 = .ok (.getfield 55, 3) := by decide +kernel
theorem dX1_follow_71 : decode cX1_follow 71 = .ok (.ifCond .eq 7, 3) := by decide +kernel
theorem dX1_follow_74 : decode cX1_follow 74 = .ok (.iconst 1, 1) := by decide +kernel
theorem dX1_follow_75 : decode cX1_follow 75 = .ok (.goto 4, 3) := by decide +kernel
theorem dX1_follow_78 : decode cX1_follow 78 = .ok (.iconst 0, 1) := by decide +kernel
theorem dX1_follow_79 : decode cX1_follow 79 = .ok (.bastore, 1) := by decide +kernel
theorem dX1_follow_80 : decode cX1_follow 80 = .ok (.aload_n 0, 1) := by decide +kernel
theorem dX1_follow_81 : decode cX1_follow 81 = .ok (.getfield 29, 3) := by decide +kernel
theorem dX1_follow_84 : decode cX1_follow 84 = .ok (.iload_n 3, 1) := by decide +kernel
theorem dX1_follow_85 : decode cX1_follow 85 = .ok (.iconst 0, 1) := by decide +kernel
theorem dX1_follow_86 : decode cX1_follow 86 = .ok (.iastore, 1) := by decide +kernel
theorem dX1_follow_87 : decode cX1_follow 87 = .ok (.iload 4, 2) := by decide +kernel
theorem dX1_follow_89 : decode cX1_follow 89 = .ok (.ifCond .ne 6, 3) := by decide +kernel
theorem dX1_follow_92 : decode cX1_follow 92 = .ok (.goto 81, 3) := by decide +kernel
theorem dX1_follow_95 : decode cX1_follow 95 = .ok (.iload_n 2, 1) := by decide +kernel
theorem dX1_follow_96 : decode cX1_follow 96 = .ok (.ifCond .ne 33, 3) := by decide +kernel
theorem dX1_follow_99 : decode cX1_follow 99 = .ok (.aload_n 1, 1) := by decide +kernel
theorem dX1_follow_100 : decode cX1_follow 100 = .ok (.iload_n 3, 1) := by decide +kernel
theorem dX1_follow_101 : decode cX1_follow 101 = .ok (.invokevirtual 57, 3) := by decide +kernel
theorem dX1_follow_104 : decode cX1_follow 104 = .ok (.bipush 14, 2) := by decide +kernel
theorem dX1_follow_106 : decode cX1_follow 106 = .ok (.if_icmp .ne 23, 3) := by decide +kernel
theorem dX1_follow_109 : decode cX1_follow 109 = .ok (.aload_n 0, 1) := by decide +kernel
theorem dX1_follow_110 : decode cX1_follow 110 = .ok (.getfield 18, 3) := by decide +kernel
theorem dX1_follow_113 : decode cX1_follow 113 = .ok (.aload_n 0, 1) := by decide +kernel
theorem dX1_follow_114 : decode cX1_follow 114 = .ok (.getfield 12, 3) := by decide +kernel
theorem dX1_follow_117 : decode cX1_follow 117 = .ok (.invokevirtual 61, 3) := by decide +kernel
theorem dX1_follow_120 : decode cX1_follow 120 = .ok (.aload_n 1, 1) := by decide +kernel
theorem dX1_follow_121 : decode cX1_follow 121 = .ok (.iload_n 3, 1) := by decide +kernel
theorem dX1_follow_122 : decode cX1_follow 122 = .ok (.invokevirtual 65, 3) := by decide +kernel
theorem dX1_follow_125 : decode cX1_follow 125 = .ok (.istore_n 2, 1) := by decide +kernel
theorem dX1_follow_126 : decode cX1_follow 126 = .ok (.goto 47, 3) := by decide +kernel
theorem dX1_follow_129 : decode cX1_follow 129 = .ok (.aload_n 0, 1) := by decide +kernel
theorem dX1_follow_130 : decode cX1_follow 130 = .ok (.getfield 12, 3) := by decide +kernel
theorem dX1_follow_133 : decode cX1_follow 133 = .ok (.getfield 55, 3) := by decide +kernel
theorem dX1_follow_136 : decode cX1_follow 136 = .ok (.ifCond .eq 15, 3) := by decide +kernel
theorem dX1_follow_139 : decode cX1_follow 139 = .ok (.aload_n 0, 1) := by decide +kernel
theorem dX1_follow_140 : decode cX1_follow 140 = .ok (.getfield 29, 3) := by decide +kernel
theorem dX1_follow_143 : decode cX1_follow 143 = .ok (.iload_n 3, 1) := by decide +kernel
theorem dX1_follow_144 : decode cX1_follow 144 = .ok (.aload_n 0, 1) := by decide +kernel
theorem dX1_follow_145 : decode cX1_follow 145 = .ok (.aload_n 1, 1) := by decide +kernel
theorem dX1_follow_146 : decode cX1_follow 146 = .ok (.iload_n 3, 1) := by decide +kernel
theorem dX1_follow_147 : decode cX1_follow 147 = .ok (.invokevirtual 68, 3) := by decide +kernel
theorem dX1_follow_150 : decode cX1_follow 150 = .ok (.iastore, 1) := by decide +kernel
theorem dX1_follow_151 : decode cX1_follow 151 = .ok (.iload_n 2, 1) := by decide +kernel
theorem dX1_follow_152 : decode cX1_follow 152 = .ok (.ifCond .le 21, 3) := by decide +kernel
theorem dX1_follow_155 : decode cX1_follow 155 = .ok (.iinc 2 (-1), 3) := by decide +kernel
theorem dX1_follow_158 : decode cX1_follow 158 = .ok (.iload_n 2, 1) := by decide +kernel
theorem dX1_follow_159 : decode cX1_follow 159 = .ok (.ifCond .ne 14, 3) := by decide +kernel
theorem dX1_follow_162 : decode cX1_follow 162 = .ok (.aload_n 0, 1) := by decide +kernel
theorem dX1_follow_163 : decode cX1_follow 163 = .ok (.getfield 12, 3) := by decide +kernel
theorem dX1_follow_166 : decode cX1_follow 166 = .ok (.aload_n 0, 1) := by decide +kernel
theorem dX1_follow_167 : decode cX1_follow 167 = .ok (.getfield 18, 3) := by decide +kernel
theorem dX1_follow_170 : decode cX1_follow 170 = .ok (.invokevirtual 72, 3) := by decide +kernel
theorem dX1_follow_173 : decode cX1_follow 173 = .ok (.iinc 3 1, 3) := by decide +kernel
theorem dX1_follow_176 : decode cX1_follow 176 = .ok (.goto (-152), 3) := by decide +kernel
theorem dX1_follow_179 : decode cX1_follow 179 = .ok (.iload_n 2, 1) := by decide +kernel
theorem dX1_follow_180 : decode cX1_follow 180 = .ok (.ifCond .le 14, 3) := by decide +kernel
theorem dX1_follow_183 : decode cX1_follow 183 = .ok (.aload_n 0, 1) := by decide +kernel
theorem dX1_follow_184 : decode cX1_follow 184 = .ok (.getfield 12, 3) := by decide +kernel
theorem dX1_follow_187 : decode cX1_follow 187 = .ok (.aload_n 0, 1) := by decide +kernel
theorem dX1_follow_188 : decode cX1_follow 188 = .ok (.getfield 18, 3) := by decide +kernel
theorem dX1_follow_191 : decode cX1_follow 191 = .ok (.invokevirtual 72, 3) := by decide +kernel
theorem dX1_follow_194 : decode cX1_follow 194 = .ok (.return_, 1) := by decide +kernel
theorem dX1_countReached_0 : decode cX1_countReached 0 = .ok (.iconst 0, 1) := by decide +kernel
theorem dX1_countReached_1 : decode cX1_countReached 1 = .ok (.istore_n 1, 1) := by decide +kernel
theorem dX1_countReached_2 : decode cX1_countReached 2 = .ok (.iconst 0, 1) := by decide +kernel
theorem dX1_countReached_3 : decode cX1_countReached 3 = .ok (.istore_n 2, 1) := by decide +kernel
theorem dX1_countReached_4 : decode cX1_countReached 4 = .ok (.iload_n 2, 1) := by decide +kernel
theorem dX1_countReached_5 : decode cX1_countReached 5 = .ok (.bipush 40, 2) := by decide +kernel
theorem dX1_countReached_7 : decode cX1_countReached 7 = .ok (.if_icmp .ge 21, 3) := by decide +kernel
theorem dX1_countReached_10 : decode cX1_countReached 10 = .ok (.aload_n 0, 1) := by decide +kernel
theorem dX1_countReached_11 : decode cX1_countReached 11 = .ok (.getfield 25, 3) := by decide +kernel
theorem dX1_countReached_14 : decode cX1_countReached 14 = .ok (.iload_n 2, 1) := by decide +kernel
theorem dX1_countReached_15 : decode cX1_countReached 15 = .ok (.baload, 1) := by decide +kernel
theorem dX1_countReached_16 : decode cX1_countReached 16 = .ok (.ifCond .eq 6, 3) := by decide +kernel
theorem dX1_countReached_19 : decode cX1_countReached 19 = .ok (.iinc 1 1, 3) := by decide +kernel
theorem dX1_countReached_22 : decode cX1_countReached 22 = .ok (.iinc 2 1, 3) := by decide +kernel
theorem dX1_countReached_25 : decode cX1_countReached 25 = .ok (.goto (-21), 3) := by decide +kernel
theorem dX1_countReached_28 : decode cX1_countReached 28 = .ok (.iload_n 1, 1) := by decide +kernel
theorem dX1_countReached_29 : decode cX1_countReached 29 = .ok (.ireturn, 1) := by decide +kernel
theorem dX1_countThrowing_0 : decode cX1_countThrowing 0 = .ok (.iconst 0, 1) := by decide +kernel
theorem dX1_countThrowing_1 : decode cX1_countThrowing 1 = .ok (.istore_n 1, 1) := by decide +kernel
theorem dX1_countThrowing_2 : decode cX1_countThrowing 2 = .ok (.iconst 0, 1) := by decide +kernel
theorem dX1_countThrowing_3 : decode cX1_countThrowing 3 = .ok (.istore_n 2, 1) := by decide +kernel
theorem dX1_countThrowing_4 : decode cX1_countThrowing 4 = .ok (.iload_n 2, 1) := by decide +kernel
theorem dX1_countThrowing_5 : decode cX1_countThrowing 5 = .ok (.bipush 40, 2) := by decide +kernel
theorem dX1_countThrowing_7 : decode cX1_countThrowing 7 = .ok (.if_icmp .ge 21, 3) := by decide +kernel
theorem dX1_countThrowing_10 : decode cX1_countThrowing 10 = .ok (.aload_n 0, 1) := by decide +kernel
theorem dX1_countThrowing_11 : decode cX1_countThrowing 11 = .ok (.getfield 29, 3) := by decide +kernel
theorem dX1_countThrowing_14 : decode cX1_countThrowing 14 = .ok (.iload_n 2, 1) := by decide +kernel
theorem dX1_countThrowing_15 : decode cX1_countThrowing 15 = .ok (.iaload, 1) := by decide +kernel
theorem dX1_countThrowing_16 : decode cX1_countThrowing 16 = .ok (.ifCond .eq 6, 3) := by decide +kernel
theorem dX1_countThrowing_19 : decode cX1_countThrowing 19 = .ok (.iinc 1 1, 3) := by decide +kernel
theorem dX1_countThrowing_22 : decode cX1_countThrowing 22 = .ok (.iinc 2 1, 3) := by decide +kernel
theorem dX1_countThrowing_25 : decode cX1_countThrowing 25 = .ok (.goto (-21), 3) := by decide +kernel
theorem dX1_countThrowing_28 : decode cX1_countThrowing 28 = .ok (.iload_n 1, 1) := by decide +kernel
theorem dX1_countThrowing_29 : decode cX1_countThrowing 29 = .ok (.ireturn, 1) := by decide +kernel
theorem dX2_init_0 : decode cX2_init 0 = .ok (.aload_n 0, 1) := by decide +kernel
theorem dX2_init_1 : decode cX2_init 1 = .ok (.invokespecial 3, 3) := by decide +kernel
theorem dX2_init_4 : decode cX2_init 4 = .ok (.aload_n 0, 1) := by decide +kernel
theorem dX2_init_5 : decode cX2_init 5 = .ok (.iconst 0, 1) := by decide +kernel
theorem dX2_init_6 : decode cX2_init 6 = .ok (.putfield 9, 3) := by decide +kernel
theorem dX2_init_9 : decode cX2_init 9 = .ok (.aload_n 0, 1) := by decide +kernel
theorem dX2_init_10 : decode cX2_init 10 = .ok (.iconst 0, 1) := by decide +kernel
theorem dX2_init_11 : decode cX2_init 11 = .ok (.putfield 15, 3) := by decide +kernel
theorem dX2_init_14 : decode cX2_init 14 = .ok (.aload_n 0, 1) := by decide +kernel
theorem dX2_init_15 : decode cX2_init 15 = .ok (.iconst (-1), 1) := by decide +kernel
theorem dX2_init_16 : decode cX2_init 16 = .ok (.putfield 19, 3) := by decide +kernel
theorem dX2_init_19 : decode cX2_init 19 = .ok (.aload_n 0, 1) := by decide +kernel
theorem dX2_init_20 : decode cX2_init 20 = .ok (.bipush 6, 2) := by decide +kernel
theorem dX2_init_22 : decode cX2_init 22 = .ok (.newarray .int, 2) := by decide +kernel
theorem dX2_init_24 : decode cX2_init 24 = .ok (.putfield 22, 3) := by decide +kernel
theorem dX2_init_27 : decode cX2_init 27 = .ok (.aload_n 0, 1) := by decide +kernel
theorem dX2_init_28 : decode cX2_init 28 = .ok (.bipush 6, 2) := by decide +kernel
theorem dX2_init_30 : decode cX2_init 30 = .ok (.newarray .int, 2) := by decide +kernel
theorem dX2_init_32 : decode cX2_init 32 = .ok (.putfield 26, 3) := by decide +kernel
theorem dX2_init_35 : decode cX2_init 35 = .ok (.aload_n 0, 1) := by decide +kernel
theorem dX2_init_36 : decode cX2_init 36 = .ok (.bipush 40, 2) := by decide +kernel
theorem dX2_init_38 : decode cX2_init 38 = .ok (.newarray .int, 2) := by decide +kernel
theorem dX2_init_40 : decode cX2_init 40 = .ok (.putfield 29, 3) := by decide +kernel
theorem dX2_init_43 : decode cX2_init 43 = .ok (.aload_n 0, 1) := by decide +kernel
theorem dX2_init_44 : decode cX2_init 44 = .ok (.bipush 40, 2) := by decide +kernel
theorem dX2_init_46 : decode cX2_init 46 = .ok (.newarray .int, 2) := by decide +kernel
theorem dX2_init_48 : decode cX2_init 48 = .ok (.putfield 32, 3) := by decide +kernel
theorem dX2_init_51 : decode cX2_init 51 = .ok (.aload_n 0, 1) := by decide +kernel
theorem dX2_init_52 : decode cX2_init 52 = .ok (.sipush 480, 3) := by decide +kernel
theorem dX2_init_55 : decode cX2_init 55 = .ok (.newarray .int, 2) := by decide +kernel
theorem dX2_init_57 : decode cX2_init 57 = .ok (.putfield 35, 3) := by decide +kernel
theorem dX2_init_60 : decode cX2_init 60 = .ok (.aload_n 0, 1) := by decide +kernel
theorem dX2_init_61 : decode cX2_init 61 = .ok (.lconst 0, 1) := by decide +kernel
theorem dX2_init_62 : decode cX2_init 62 = .ok (.putfield 38, 3) := by decide +kernel
theorem dX2_init_65 : decode cX2_init 65 = .ok (.aload_n 0, 1) := by decide +kernel
theorem dX2_init_66 : decode cX2_init 66 = .ok (.invokevirtual 42, 3) := by decide +kernel
theorem dX2_init_69 : decode cX2_init 69 = .ok (.return_, 1) := by decide +kernel
theorem dX2_forget_0 : decode cX2_forget 0 = .ok (.aload_n 0, 1) := by decide +kernel
theorem dX2_forget_1 : decode cX2_forget 1 = .ok (.iconst 0, 1) := by decide +kernel
theorem dX2_forget_2 : decode cX2_forget 2 = .ok (.putfield 9, 3) := by decide +kernel
theorem dX2_forget_5 : decode cX2_forget 5 = .ok (.aload_n 0, 1) := by decide +kernel
theorem dX2_forget_6 : decode cX2_forget 6 = .ok (.iconst 0, 1) := by decide +kernel
theorem dX2_forget_7 : decode cX2_forget 7 = .ok (.putfield 15, 3) := by decide +kernel
theorem dX2_forget_10 : decode cX2_forget 10 = .ok (.aload_n 0, 1) := by decide +kernel
theorem dX2_forget_11 : decode cX2_forget 11 = .ok (.iconst (-1), 1) := by decide +kernel
theorem dX2_forget_12 : decode cX2_forget 12 = .ok (.putfield 19, 3) := by decide +kernel
theorem dX2_forget_15 : decode cX2_forget 15 = .ok (.iconst 0, 1) := by decide +kernel
theorem dX2_forget_16 : decode cX2_forget 16 = .ok (.istore_n 1, 1) := by decide +kernel
theorem dX2_forget_17 : decode cX2_forget 17 = .ok (.iload_n 1, 1) := by decide +kernel
theorem dX2_forget_18 : decode cX2_forget 18 = .ok (.bipush 6, 2) := by decide +kernel
theorem dX2_forget_20 : decode cX2_forget 20 = .ok (.if_icmp .ge 16, 3) := by decide +kernel
theorem dX2_forget_23 : decode cX2_forget 23 = .ok (.aload_n 0, 1) := by decide +kernel
theorem dX2_forget_24 : decode cX2_forget 24 = .ok (.getfield 22, 3) := by decide +kernel
theorem dX2_forget_27 : decode cX2_forget 27 = .ok (.iload_n 1, 1) := by decide +kernel
theorem dX2_forget_28 : decode cX2_forget 28 = .ok (.iconst 0, 1) := by decide +kernel
theorem dX2_forget_29 : decode cX2_forget 29 = .ok (.iastore, 1) := by decide +kernel
theorem dX2_forget_30 : decode cX2_forget 30 = .ok (.iinc 1 1, 3) := by decide +kernel
theorem dX2_forget_33 : decode cX2_forget 33 = .ok (.goto (-16), 3) := by decide +kernel
theorem dX2_forget_36 : decode cX2_forget 36 = .ok (.iconst 0, 1) := by decide +kernel
theorem dX2_forget_37 : decode cX2_forget 37 = .ok (.istore_n 1, 1) := by decide +kernel
theorem dX2_forget_38 : decode cX2_forget 38 = .ok (.iload_n 1, 1) := by decide +kernel
theorem dX2_forget_39 : decode cX2_forget 39 = .ok (.bipush 6, 2) := by decide +kernel
theorem dX2_forget_41 : decode cX2_forget 41 = .ok (.if_icmp .ge 16, 3) := by decide +kernel
theorem dX2_forget_44 : decode cX2_forget 44 = .ok (.aload_n 0, 1) := by decide +kernel
theorem dX2_forget_45 : decode cX2_forget 45 = .ok (.getfield 26, 3) := by decide +kernel
theorem dX2_forget_48 : decode cX2_forget 48 = .ok (.iload_n 1, 1) := by decide +kernel
theorem dX2_forget_49 : decode cX2_forget 49 = .ok (.iconst (-1), 1) := by decide +kernel
theorem dX2_forget_50 : decode cX2_forget 50 = .ok (.iastore, 1) := by decide +kernel
theorem dX2_forget_51 : decode cX2_forget 51 = .ok (.iinc 1 1, 3) := by decide +kernel
theorem dX2_forget_54 : decode cX2_forget 54 = .ok (.goto (-16), 3) := by decide +kernel
theorem dX2_forget_57 : decode cX2_forget 57 = .ok (.return_, 1) := by decide +kernel
theorem dX2_perform_0 : decode cX2_perform 0 = .ok (.aload_n 0, 1) := by decide +kernel
theorem dX2_perform_1 : decode cX2_perform 1 = .ok (.invokevirtual 42, 3) := by decide +kernel
theorem dX2_perform_4 : decode cX2_perform 4 = .ok (.aload_n 0, 1) := by decide +kernel
theorem dX2_perform_5 : decode cX2_perform 5 = .ok (.iconst 1, 1) := by decide +kernel
theorem dX2_perform_6 : decode cX2_perform 6 = .ok (.putfield 9, 3) := by decide +kernel
theorem dX2_perform_9 : decode cX2_perform 9 = .ok (.aload_n 0, 1) := by decide +kernel
theorem dX2_perform_10 : decode cX2_perform 10 = .ok (.lload_n 2, 1) := by decide +kernel
theorem dX2_perform_11 : decode cX2_perform 11 = .ok (.putfield 38, 3) := by decide +kernel
theorem dX2_perform_14 : decode cX2_perform 14 = .ok (.iconst 0, 1) := by decide +kernel
theorem dX2_perform_15 : decode cX2_perform 15 = .ok (.istore 4, 2) := by decide +kernel
theorem dX2_perform_17 : decode cX2_perform 17 = .ok (.iconst 1, 1) := by decide +kernel
theorem dX2_perform_18 : decode cX2_perform 18 = .ok (.istore 5, 2) := by decide +kernel
theorem dX2_perform_20 : decode cX2_perform 20 = .ok (.iconst 0, 1) := by decide +kernel
theorem dX2_perform_21 : decode cX2_perform 21 = .ok (.istore 6, 2) := by decide +kernel
theorem dX2_perform_23 : decode cX2_perform 23 = .ok (.iload 6, 2) := by decide +kernel
theorem dX2_perform_25 : decode cX2_perform 25 = .ok (.aload_n 1, 1) := by decide +kernel
theorem dX2_perform_26 : decode cX2_perform 26 = .ok (.getfield 45, 3) := by decide +kernel
theorem dX2_perform_29 : decode cX2_perform 29 = .ok (.if_icmp .ge 110, 3) := by decide +kernel
theorem dX2_perform_32 : decode cX2_perform 32 = .ok (.aload_n 0, 1) := by decide +kernel
theorem dX2_perform_33 : decode cX2_perform 33 = .ok (.getfield 15, 3) := by decide +kernel
theorem dX2_perform_36 : decode cX2_perform 36 = .ok (.ifCond .ne 103, 3) := by decide +kernel
theorem dX2_perform_39 : decode cX2_perform 39 = .ok (.aload_n 1, 1) := by decide +kernel
theorem dX2_perform_40 : decode cX2_perform 40 = .ok (.getfield 50, 3) := by decide +kernel
theorem dX2_perform_43 : decode cX2_perform 43 = .ok (.iload 6, 2) := by decide +kernel
theorem dX2_perform_45 : decode cX2_perform 45 = .ok (.baload, 1) := by decide +kernel
theorem dX2_perform_46 : decode cX2_perform 46 = .ok (.ifCond .eq 6, 3) := by decide +kernel
theorem dX2_perform_49 : decode cX2_perform 49 = .ok (.goto 84, 3) := by decide +kernel
theorem dX2_perform_52 : decode cX2_perform 52 = .ok (.iload 4, 2) := by decide +kernel
theorem dX2_perform_54 : decode cX2_perform 54 = .ok (.ifCond .ne 31, 3) := by decide +kernel
theorem dX2_perform_57 : decode cX2_perform 57 = .ok (.aload_n 1, 1) := by decide +kernel
theorem dX2_perform_58 : decode cX2_perform 58 = .ok (.iload 6, 2) := by decide +kernel
theorem dX2_perform_60 : decode cX2_perform 60 = .ok (.invokevirtual 54, 3) := by decide +kernel
theorem dX2_perform_63 : decode cX2_perform 63 = .ok (.bipush 14, 2) := by decide +kernel
theorem dX2_perform_65 : decode cX2_perform 65 = .ok (.if_icmp .ne 20, 3) := by decide +kernel
theorem dX2_perform_68 : decode cX2_perform 68 = .ok (.aload_n 1, 1) := by decide +kernel
theorem dX2_perform_69 : decode cX2_perform 69 = .ok (.iload 6, 2) := by decide +kernel
theorem dX2_perform_71 : decode cX2_perform 71 = .ok (.invokevirtual 58, 3) := by decide +kernel
theorem dX2_perform_74 : decode cX2_perform 74 = .ok (.istore 4, 2) := by decide +kernel
theorem dX2_perform_76 : decode cX2_perform 76 = .ok (.aload_n 0, 1) := by decide +kernel
theorem dX2_perform_77 : decode cX2_perform 77 = .ok (.invokevirtual 61, 3) := by decide +kernel
theorem dX2_perform_80 : decode cX2_perform 80 = .ok (.istore 5, 2) := by decide +kernel
theorem dX2_perform_82 : decode cX2_perform 82 = .ok (.goto 51, 3) := by decide +kernel
theorem dX2_perform_85 : decode cX2_perform 85 = .ok (.iload 4, 2) := by decide +kernel
theorem dX2_perform_87 : decode cX2_perform 87 = .ok (.ifCond .eq 8, 3) := by decide +kernel
theorem dX2_perform_90 : decode cX2_perform 90 = .ok (.iload 5, 2) := by decide +kernel
theorem dX2_perform_92 : decode cX2_perform 92 = .ok (.ifCond .eq 31, 3) := by decide +kernel
theorem dX2_perform_95 : decode cX2_perform 95 = .ok (.aload_n 0, 1) := by decide +kernel
theorem dX2_perform_96 : decode cX2_perform 96 = .ok (.aload_n 0, 1) := by decide +kernel
theorem dX2_perform_97 : decode cX2_perform 97 = .ok (.aload_n 1, 1) := by decide +kernel
theorem dX2_perform_98 : decode cX2_perform 98 = .ok (.iload 6, 2) := by decide +kernel
theorem dX2_perform_100 : decode cX2_perform 100 = .ok (.invokevirtual 65, 3) := by decide +kernel
theorem dX2_perform_103 : decode cX2_perform 103 = .ok (.putfield 15, 3) := by decide +kernel
theorem dX2_perform_106 : decode cX2_perform 106 = .ok (.aload_n 0, 1) := by decide +kernel
theorem dX2_perform_107 : decode cX2_perform 107 = .ok (.aload_n 0, 1) := by decide +kernel
theorem dX2_perform_108 : decode cX2_perform 108 = .ok (.getfield 15, 3) := by decide +kernel
theorem dX2_perform_111 : decode cX2_perform 111 = .ok (.ifCond .ne 7, 3) := by decide +kernel
theorem dX2_perform_114 : decode cX2_perform 114 = .ok (.iconst (-1), 1) := by decide +kernel
theorem dX2_perform_115 : decode cX2_perform 115 = .ok (.goto 5, 3) := by decide +kernel
theorem dX2_perform_118 : decode cX2_perform 118 = .ok (.iload 6, 2) := by decide +kernel
theorem dX2_perform_120 : decode cX2_perform 120 = .ok (.putfield 19, 3) := by decide +kernel
theorem dX2_perform_123 : decode cX2_perform 123 = .ok (.iload 4, 2) := by decide +kernel
theorem dX2_perform_125 : decode cX2_perform 125 = .ok (.iconst 1, 1) := by decide +kernel
theorem dX2_perform_126 : decode cX2_perform 126 = .ok (.isub, 1) := by decide +kernel
theorem dX2_perform_127 : decode cX2_perform 127 = .ok (.iconst 0, 1) := by decide +kernel
theorem dX2_perform_128 : decode cX2_perform 128 = .ok (.invokestatic 69, 3) := by decide +kernel
theorem dX2_perform_131 : decode cX2_perform 131 = .ok (.istore 4, 2) := by decide +kernel
theorem dX2_perform_133 : decode cX2_perform 133 = .ok (.iinc 6 1, 3) := by decide +kernel
theorem dX2_perform_136 : decode cX2_perform 136 = .ok (.goto (-113), 3) := by decide +kernel
theorem dX2_perform_139 : decode cX2_perform 139 = .ok (.return_, 1) := by decide +kernel
theorem dX3_init_0 : decode cX3_init 0 = .ok (.aload_n 0, 1) := by decide +kernel
theorem dX3_init_1 : decode cX3_init 1 = .ok (.invokespecial 3, 3) := by decide +kernel
theorem dX3_init_4 : decode cX3_init 4 = .ok (.aload_n 0, 1) := by decide +kernel
theorem dX3_init_5 : decode cX3_init 5 = .ok (.sipush 240, 3) := by decide +kernel
theorem dX3_init_8 : decode cX3_init 8 = .ok (.newarray .int, 2) := by decide +kernel
theorem dX3_init_10 : decode cX3_init 10 = .ok (.putfield 11, 3) := by decide +kernel
theorem dX3_init_13 : decode cX3_init 13 = .ok (.aload_n 0, 1) := by decide +kernel
theorem dX3_init_14 : decode cX3_init 14 = .ok (.bipush 40, 2) := by decide +kernel
theorem dX3_init_16 : decode cX3_init 16 = .ok (.newarray .boolean, 2) := by decide +kernel
theorem dX3_init_18 : decode cX3_init 18 = .ok (.putfield 15, 3) := by decide +kernel
theorem dX3_init_21 : decode cX3_init 21 = .ok (.aload_n 0, 1) := by decide +kernel
theorem dX3_init_22 : decode cX3_init 22 = .ok (.iconst 0, 1) := by decide +kernel
theorem dX3_init_23 : decode cX3_init 23 = .ok (.putfield 19, 3) := by decide +kernel
theorem dX3_init_26 : decode cX3_init 26 = .ok (.return_, 1) := by decide +kernel
theorem dX3_isAct_0 : decode cX3_isAct 0 = .ok (.iload_n 0, 1) := by decide +kernel
theorem dX3_isAct_1 : decode cX3_isAct 1 = .ok (.tableswitch 426 0 14 #[75, 95, 127, 127, 154, 181, 186, 206, 186, 233, 268, 303, 346, 389, 409], 75) := by decide +kernel
theorem dX3_isAct_76 : decode cX3_isAct 76 = .ok (.iload_n 1, 1) := by decide +kernel
theorem dX3_isAct_77 : decode cX3_isAct 77 = .ok (.invokestatic 23, 3) := by decide +kernel
theorem dX3_isAct_80 : decode cX3_isAct 80 = .ok (.ifCond .eq 14, 3) := by decide +kernel
theorem dX3_isAct_83 : decode cX3_isAct 83 = .ok (.iload_n 2, 1) := by decide +kernel
theorem dX3_isAct_84 : decode cX3_isAct 84 = .ok (.invokestatic 27, 3) := by decide +kernel
theorem dX3_isAct_87 : decode cX3_isAct 87 = .ok (.ifCond .eq 7, 3) := by decide +kernel
theorem dX3_isAct_90 : decode cX3_isAct 90 = .ok (.iconst 1, 1) := by decide +kernel
theorem dX3_isAct_91 : decode cX3_isAct 91 = .ok (.goto 4, 3) := by decide +kernel
theorem dX3_isAct_94 : decode cX3_isAct 94 = .ok (.iconst 0, 1) := by decide +kernel
theorem dX3_isAct_95 : decode cX3_isAct 95 = .ok (.ireturn, 1) := by decide +kernel
theorem dX3_isAct_96 : decode cX3_isAct 96 = .ok (.iload_n 1, 1) := by decide +kernel
theorem dX3_isAct_97 : decode cX3_isAct 97 = .ok (.invokestatic 23, 3) := by decide +kernel
theorem dX3_isAct_100 : decode cX3_isAct 100 = .ok (.ifCond .eq 26, 3) := by decide +kernel
theorem dX3_isAct_103 : decode cX3_isAct 103 = .ok (.iload_n 2, 1) := by decide +kernel
theorem dX3_isAct_104 : decode cX3_isAct 104 = .ok (.invokestatic 27, 3) := by decide +kernel
theorem dX3_isAct_107 : decode cX3_isAct 107 = .ok (.ifCond .eq 19, 3) := by decide +kernel
theorem dX3_isAct_110 : decode cX3_isAct 110 = .ok (.iload_n 3, 1) := by decide +kernel
theorem dX3_isAct_111 : decode cX3_isAct 111 = .ok (.invokestatic 27, 3) := by decide +kernel
theorem dX3_isAct_114 : decode cX3_isAct 114 = .ok (.ifCond .eq 12, 3) := by decide +kernel
theorem dX3_isAct_117 : decode cX3_isAct 117 = .ok (.iload_n 2, 1) := by decide +kernel
theorem dX3_isAct_118 : decode cX3_isAct 118 = .ok (.iload_n 3, 1) := by decide +kernel
theorem dX3_isAct_119 : decode cX3_isAct 119 = .ok (.if_icmp .gt 7, 3) := by decide +kernel
theorem dX3_isAct_122 : decode cX3_isAct 122 = .ok (.iconst 1, 1) := by decide +kernel
theorem dX3_isAct_123 : decode cX3_isAct 123 = .ok (.goto 4, 3) := by decide +kernel
theorem dX3_isAct_126 : decode cX3_isAct 126 = .ok (.iconst 0, 1) := by decide +kernel
theorem dX3_isAct_127 : decode cX3_isAct 127 = .ok (.ireturn, 1) := by decide +kernel
theorem dX3_isAct_128 : decode cX3_isAct 128 = .ok (.iload_n 1, 1) := by decide +kernel
theorem dX3_isAct_129 : decode cX3_isAct 129 = .ok (.invokestatic 23, 3) := by decide +kernel
theorem dX3_isAct_132 : decode cX3_isAct 132 = .ok (.ifCond .eq 21, 3) := by decide +kernel
theorem dX3_isAct_135 : decode cX3_isAct 135 = .ok (.iload_n 2, 1) := by decide +kernel
theorem dX3_isAct_136 : decode cX3_isAct 136 = .ok (.invokestatic 23, 3) := by decide +kernel
theorem dX3_isAct_139 : decode cX3_isAct 139 = .ok (.ifCond .eq 14, 3) := by decide +kernel
theorem dX3_isAct_142 : decode cX3_isAct 142 = .ok (.iload_n 3, 1) := by decide +kernel
theorem dX3_isAct_143 : decode cX3_isAct 143 = .ok (.invokestatic 23, 3) := by decide +kernel
theorem dX3_isAct_146 : decode cX3_isAct 146 = .ok (.ifCond .eq 7, 3) := by decide +kernel
theorem dX3_isAct_149 : decode cX3_isAct 149 = .ok (.iconst 1, 1) := by decide +kernel
theorem dX3_isAct_150 : decode cX3_isAct 150 = .ok (.goto 4, 3) := by decide +kernel
theorem dX3_isAct_153 : decode cX3_isAct 153 = .ok (.iconst 0, 1) := by decide +kernel
theorem dX3_isAct_154 : decode cX3_isAct 154 = .ok (.ireturn, 1) := by decide +kernel
theorem dX3_isAct_155 : decode cX3_isAct 155 = .ok (.iload_n 1, 1) := by decide +kernel
theorem dX3_isAct_156 : decode cX3_isAct 156 = .ok (.invokestatic 30, 3) := by decide +kernel
theorem dX3_isAct_159 : decode cX3_isAct 159 = .ok (.ifCond .eq 21, 3) := by decide +kernel
theorem dX3_isAct_162 : decode cX3_isAct 162 = .ok (.iload_n 2, 1) := by decide +kernel
theorem dX3_isAct_163 : decode cX3_isAct 163 = .ok (.invokestatic 33, 3) := by decide +kernel
theorem dX3_isAct_166 : decode cX3_isAct 166 = .ok (.ifCond .eq 14, 3) := by decide +kernel
theorem dX3_isAct_169 : decode cX3_isAct 169 = .ok (.iload_n 3, 1) := by decide +kernel
theorem dX3_isAct_170 : decode cX3_isAct 170 = .ok (.invokestatic 23, 3) := by decide +kernel
theorem dX3_isAct_173 : decode cX3_isAct 173 = .ok (.ifCond .eq 7, 3) := by decide +kernel
theorem dX3_isAct_176 : decode cX3_isAct 176 = .ok (.iconst 1, 1) := by decide +kernel
theorem dX3_isAct_177 : decode cX3_isAct 177 = .ok (.goto 4, 3) := by decide +kernel
theorem dX3_isAct_180 : decode cX3_isAct 180 = .ok (.iconst 0, 1) := by decide +kernel
theorem dX3_isAct_181 : decode cX3_isAct 181 = .ok (.ireturn, 1) := by decide +kernel
theorem dX3_isAct_182 : decode cX3_isAct 182 = .ok (.iload_n 1, 1) := by decide +kernel
theorem dX3_isAct_183 : decode cX3_isAct 183 = .ok (.invokestatic 30, 3) := by decide +kernel
theorem dX3_isAct_186 : decode cX3_isAct 186 = .ok (.ireturn, 1) := by decide +kernel
theorem dX3_isAct_187 : decode cX3_isAct 187 = .ok (.iload_n 1, 1) := by decide +kernel
theorem dX3_isAct_188 : decode cX3_isAct 188 = .ok (.invokestatic 30, 3) := by decide +kernel
theorem dX3_isAct_191 : decode cX3_isAct 191 = .ok (.ifCond .eq 14, 3) := by decide +kernel
theorem dX3_isAct_194 : decode cX3_isAct 194 = .ok (.iload_n 2, 1) := by decide +kernel
theorem dX3_isAct_195 : decode cX3_isAct 195 = .ok (.invokestatic 30, 3) := by decide +kernel
theorem dX3_isAct_198 : decode cX3_isAct 198 = .ok (.ifCond .eq 7, 3) := by decide +kernel
theorem dX3_isAct_201 : decode cX3_isAct 201 = .ok (.iconst 1, 1) := by decide +kernel
theorem dX3_isAct_202 : decode cX3_isAct 202 = .ok (.goto 4, 3) := by decide +kernel
theorem dX3_isAct_205 : decode cX3_isAct 205 = .ok (.iconst 0, 1) := by decide +kernel
theorem dX3_isAct_206 : decode cX3_isAct 206 = .ok (.ireturn, 1) := by decide +kernel
theorem dX3_isAct_207 : decode cX3_isAct 207 = .ok (.iload_n 1, 1) := by decide +kernel
theorem dX3_isAct_208 : decode cX3_isAct 208 = .ok (.invokestatic 30, 3) := by decide +kernel
theorem dX3_isAct_211 : decode cX3_isAct 211 = .ok (.ifCond .eq 21, 3) := by decide +kernel
theorem dX3_isAct_214 : decode cX3_isAct 214 = .ok (.iload_n 2, 1) := by decide +kernel
theorem dX3_isAct_215 : decode cX3_isAct 215 = .ok (.invokestatic 30, 3) := by decide +kernel
theorem dX3_isAct_218 : decode cX3_isAct 218 = .ok (.ifCond .eq 14, 3) := by decide +kernel
theorem dX3_isAct_221 : decode cX3_isAct 221 = .ok (.iload_n 3, 1) := by decide +kernel
theorem dX3_isAct_222 : decode cX3_isAct 222 = .ok (.invokestatic 30, 3) := by decide +kernel
theorem dX3_isAct_225 : decode cX3_isAct 225 = .ok (.ifCond .eq 7, 3) := by decide +kernel
theorem dX3_isAct_228 : decode cX3_isAct 228 = .ok (.iconst 1, 1) := by decide +kernel
theorem dX3_isAct_229 : decode cX3_isAct 229 = .ok (.goto 4, 3) := by decide +kernel
theorem dX3_isAct_232 : decode cX3_isAct 232 = .ok (.iconst 0, 1) := by decide +kernel
theorem dX3_isAct_233 : decode cX3_isAct 233 = .ok (.ireturn, 1) := by decide +kernel
theorem dX3_isAct_234 : decode cX3_isAct 234 = .ok (.iload_n 1, 1) := by decide +kernel
theorem dX3_isAct_235 : decode cX3_isAct 235 = .ok (.invokestatic 30, 3) := by decide +kernel
theorem dX3_isAct_238 : decode cX3_isAct 238 = .ok (.ifCond .eq 29, 3) := by decide +kernel
theorem dX3_isAct_241 : decode cX3_isAct 241 = .ok (.iload_n 2, 1) := by decide +kernel
theorem dX3_isAct_242 : decode cX3_isAct 242 = .ok (.invokestatic 33, 3) := by decide +kernel
theorem dX3_isAct_245 : decode cX3_isAct 245 = .ok (.ifCond .eq 22, 3) := by decide +kernel
theorem dX3_isAct_248 : decode cX3_isAct 248 = .ok (.iload_n 3, 1) := by decide +kernel
theorem dX3_isAct_249 : decode cX3_isAct 249 = .ok (.invokestatic 23, 3) := by decide +kernel
theorem dX3_isAct_252 : decode cX3_isAct 252 = .ok (.ifCond .eq 15, 3) := by decide +kernel
theorem dX3_isAct_255 : decode cX3_isAct 255 = .ok (.iload 4, 2) := by decide +kernel
theorem dX3_isAct_257 : decode cX3_isAct 257 = .ok (.invokestatic 23, 3) := by decide +kernel
theorem dX3_isAct_260 : decode cX3_isAct 260 = .ok (.ifCond .eq 7, 3) := by decide +kernel
theorem dX3_isAct_263 : decode cX3_isAct 263 = .ok (.iconst 1, 1) := by decide +kernel
theorem dX3_isAct_264 : decode cX3_isAct 264 = .ok (.goto 4, 3) := by decide +kernel
theorem dX3_isAct_267 : decode cX3_isAct 267 = .ok (.iconst 0, 1) := by decide +kernel
theorem dX3_isAct_268 : decode cX3_isAct 268 = .ok (.ireturn, 1) := by decide +kernel
theorem dX3_isAct_269 : decode cX3_isAct 269 = .ok (.iload_n 1, 1) := by decide +kernel
theorem dX3_isAct_270 : decode cX3_isAct 270 = .ok (.invokestatic 23, 3) := by decide +kernel
theorem dX3_isAct_273 : decode cX3_isAct 273 = .ok (.ifCond .eq 29, 3) := by decide +kernel
theorem dX3_isAct_276 : decode cX3_isAct 276 = .ok (.iload_n 2, 1) := by decide +kernel
theorem dX3_isAct_277 : decode cX3_isAct 277 = .ok (.invokestatic 30, 3) := by decide +kernel
theorem dX3_isAct_280 : decode cX3_isAct 280 = .ok (.ifCond .eq 22, 3) := by decide +kernel
theorem dX3_isAct_283 : decode cX3_isAct 283 = .ok (.iload_n 3, 1) := by decide +kernel
theorem dX3_isAct_284 : decode cX3_isAct 284 = .ok (.invokestatic 33, 3) := by decide +kernel
theorem dX3_isAct_287 : decode cX3_isAct 287 = .ok (.ifCond .eq 15, 3) := by decide +kernel
theorem dX3_isAct_290 : decode cX3_isAct 290 = .ok (.iload 4, 2) := by decide +kernel
theorem dX3_isAct_292 : decode cX3_isAct 292 = .ok (.invokestatic 23, 3) := by decide +kernel
theorem dX3_isAct_295 : decode cX3_isAct 295 = .ok (.ifCond .eq 7, 3) := by decide +kernel
theorem dX3_isAct_298 : decode cX3_isAct 298 = .ok (.iconst 1, 1) := by decide +kernel
theorem dX3_isAct_299 : decode cX3_isAct 299 = .ok (.goto 4, 3) := by decide +kernel
theorem dX3_isAct_302 : decode cX3_isAct 302 = .ok (.iconst 0, 1) := by decide +kernel
theorem dX3_isAct_303 : decode cX3_isAct 303 = .ok (.ireturn, 1) := by decide +kernel
theorem dX3_isAct_304 : decode cX3_isAct 304 = .ok (.iload_n 1, 1) := by decide +kernel
theorem dX3_isAct_305 : decode cX3_isAct 305 = .ok (.invokestatic 30, 3) := by decide +kernel
theorem dX3_isAct_308 : decode cX3_isAct 308 = .ok (.ifCond .eq 37, 3) := by decide +kernel
theorem dX3_isAct_311 : decode cX3_isAct 311 = .ok (.iload_n 2, 1) := by decide +kernel
theorem dX3_isAct_312 : decode cX3_isAct 312 = .ok (.invokestatic 23, 3) := by decide +kernel
theorem dX3_isAct_315 : decode cX3_isAct 315 = .ok (.ifCond .eq 30, 3) := by decide +kernel
theorem dX3_isAct_318 : decode cX3_isAct 318 = .ok (.iload_n 3, 1) := by decide +kernel
theorem dX3_isAct_319 : decode cX3_isAct 319 = .ok (.invokestatic 30, 3) := by decide +kernel
theorem dX3_isAct_322 : decode cX3_isAct 322 = .ok (.ifCond .eq 23, 3) := by decide +kernel
theorem dX3_isAct_325 : decode cX3_isAct 325 = .ok (.iload 4, 2) := by decide +kernel
theorem dX3_isAct_327 : decode cX3_isAct 327 = .ok (.invokestatic 23, 3) := by decide +kernel
theorem dX3_isAct_330 : decode cX3_isAct 330 = .ok (.ifCond .eq 15, 3) := by decide +kernel
theorem dX3_isAct_333 : decode cX3_isAct 333 = .ok (.iload 5, 2) := by decide +kernel
theorem dX3_isAct_335 : decode cX3_isAct 335 = .ok (.invokestatic 23, 3) := by decide +kernel
theorem dX3_isAct_338 : decode cX3_isAct 338 = .ok (.ifCond .eq 7, 3) := by decide +kernel
theorem dX3_isAct_341 : decode cX3_isAct 341 = .ok (.iconst 1, 1) := by decide +kernel
theorem dX3_isAct_342 : decode cX3_isAct 342 = .ok (.goto 4, 3) := by decide +kernel
theorem dX3_isAct_345 : decode cX3_isAct 345 = .ok (.iconst 0, 1) := by decide +kernel
theorem dX3_isAct_346 : decode cX3_isAct 346 = .ok (.ireturn, 1) := by decide +kernel
theorem dX3_isAct_347 : decode cX3_isAct 347 = .ok (.iload_n 1, 1) := by decide +kernel
theorem dX3_isAct_348 : decode cX3_isAct 348 = .ok (.invokestatic 30, 3) := by decide +kernel
theorem dX3_isAct_351 : decode cX3_isAct 351 = .ok (.ifCond .eq 37, 3) := by decide +kernel
theorem dX3_isAct_354 : decode cX3_isAct 354 = .ok (.iload_n 2, 1) := by decide +kernel
theorem dX3_isAct_355 : decode cX3_isAct 355 = .ok (.invokestatic 33, 3) := by decide +kernel
theorem dX3_isAct_358 : decode cX3_isAct 358 = .ok (.ifCond .eq 30, 3) := by decide +kernel
theorem dX3_isAct_361 : decode cX3_isAct 361 = .ok (.iload_n 3, 1) := by decide +kernel
theorem dX3_isAct_362 : decode cX3_isAct 362 = .ok (.invokestatic 23, 3) := by decide +kernel
theorem dX3_isAct_365 : decode cX3_isAct 365 = .ok (.ifCond .eq 23, 3) := by decide +kernel
theorem dX3_isAct_368 : decode cX3_isAct 368 = .ok (.iload 4, 2) := by decide +kernel
theorem dX3_isAct_370 : decode cX3_isAct 370 = .ok (.invokestatic 23, 3) := by decide +kernel
theorem dX3_isAct_373 : decode cX3_isAct 373 = .ok (.ifCond .eq 15, 3) := by decide +kernel
theorem dX3_isAct_376 : decode cX3_isAct 376 = .ok (.iload 5, 2) := by decide +kernel
theorem dX3_isAct_378 : decode cX3_isAct 378 = .ok (.invokestatic 23, 3) := by decide +kernel
theorem dX3_isAct_381 : decode cX3_isAct 381 = .ok (.ifCond .eq 7, 3) := by decide +kernel
theorem dX3_isAct_384 : decode cX3_isAct 384 = .ok (.iconst 1, 1) := by decide +kernel
theorem dX3_isAct_385 : decode cX3_isAct 385 = .ok (.goto 4, 3) := by decide +kernel
theorem dX3_isAct_388 : decode cX3_isAct 388 = .ok (.iconst 0, 1) := by decide +kernel
theorem dX3_isAct_389 : decode cX3_isAct 389 = .ok (.ireturn, 1) := by decide +kernel
theorem dX3_isAct_390 : decode cX3_isAct 390 = .ok (.iload_n 1, 1) := by decide +kernel
theorem dX3_isAct_391 : decode cX3_isAct 391 = .ok (.invokestatic 23, 3) := by decide +kernel
theorem dX3_isAct_394 : decode cX3_isAct 394 = .ok (.ifCond .eq 14, 3) := by decide +kernel
theorem dX3_isAct_397 : decode cX3_isAct 397 = .ok (.iload_n 2, 1) := by decide +kernel
theorem dX3_isAct_398 : decode cX3_isAct 398 = .ok (.invokestatic 30, 3) := by decide +kernel
theorem dX3_isAct_401 : decode cX3_isAct 401 = .ok (.ifCond .eq 7, 3) := by decide +kernel
theorem dX3_isAct_404 : decode cX3_isAct 404 = .ok (.iconst 1, 1) := by decide +kernel
theorem dX3_isAct_405 : decode cX3_isAct 405 = .ok (.goto 4, 3) := by decide +kernel
theorem dX3_isAct_408 : decode cX3_isAct 408 = .ok (.iconst 0, 1) := by decide +kernel
theorem dX3_isAct_409 : decode cX3_isAct 409 = .ok (.ireturn, 1) := by decide +kernel
theorem dX3_isAct_410 : decode cX3_isAct 410 = .ok (.iload_n 2, 1) := by decide +kernel
theorem dX3_isAct_411 : decode cX3_isAct 411 = .ok (.iconst 1, 1) := by decide +kernel
theorem dX3_isAct_412 : decode cX3_isAct 412 = .ok (.if_icmp .lt 13, 3) := by decide +kernel
theorem dX3_isAct_415 : decode cX3_isAct 415 = .ok (.iload_n 2, 1) := by decide +kernel
theorem dX3_isAct_416 : decode cX3_isAct 416 = .ok (.bipush 10, 2) := by decide +kernel
theorem dX3_isAct_418 : decode cX3_isAct 418 = .ok (.if_icmp .gt 7, 3) := by decide +kernel
theorem dX3_isAct_421 : decode cX3_isAct 421 = .ok (.iconst 1, 1) := by decide +kernel
theorem dX3_isAct_422 : decode cX3_isAct 422 = .ok (.goto 4, 3) := by decide +kernel
theorem dX3_isAct_425 : decode cX3_isAct 425 = .ok (.iconst 0, 1) := by decide +kernel
theorem dX3_isAct_426 : decode cX3_isAct 426 = .ok (.ireturn, 1) := by decide +kernel
theorem dX3_isAct_427 : decode cX3_isAct 427 = .ok (.iconst 0, 1) := by decide +kernel
theorem dX3_isAct_428 : decode cX3_isAct 428 = .ok (.ireturn, 1) := by decide +kernel
theorem dX3_hasAct_0 : decode cX3_hasAct 0 = .ok (.iload_n 1, 1) := by decide +kernel
theorem dX3_hasAct_1 : decode cX3_hasAct 1 = .ok (.ifCond .lt 21, 3) := by decide +kernel
theorem dX3_hasAct_4 : decode cX3_hasAct 4 = .ok (.iload_n 1, 1) := by decide +kernel
theorem dX3_hasAct_5 : decode cX3_hasAct 5 = .ok (.aload_n 0, 1) := by decide +kernel
theorem dX3_hasAct_6 : decode cX3_hasAct 6 = .ok (.getfield 19, 3) := by decide +kernel
theorem dX3_hasAct_9 : decode cX3_hasAct 9 = .ok (.if_icmp .ge 13, 3) := by decide +kernel
theorem dX3_hasAct_12 : decode cX3_hasAct 12 = .ok (.iload_n 1, 1) := by decide +kernel
theorem dX3_hasAct_13 : decode cX3_hasAct 13 = .ok (.bipush 40, 2) := by decide +kernel
theorem dX3_hasAct_15 : decode cX3_hasAct 15 = .ok (.if_icmp .ge 7, 3) := by decide +kernel
theorem dX3_hasAct_18 : decode cX3_hasAct 18 = .ok (.iconst 1, 1) := by decide +kernel
theorem dX3_hasAct_19 : decode cX3_hasAct 19 = .ok (.goto 4, 3) := by decide +kernel
theorem dX3_hasAct_22 : decode cX3_hasAct 22 = .ok (.iconst 0, 1) := by decide +kernel
theorem dX3_hasAct_23 : decode cX3_hasAct 23 = .ok (.ireturn, 1) := by decide +kernel
theorem dX3_append_0 : decode cX3_append 0 = .ok (.aload_n 0, 1) := by decide +kernel
theorem dX3_append_1 : decode cX3_append 1 = .ok (.getfield 19, 3) := by decide +kernel
theorem dX3_append_4 : decode cX3_append 4 = .ok (.bipush 6, 2) := by decide +kernel
theorem dX3_append_6 : decode cX3_append 6 = .ok (.imul, 1) := by decide +kernel
theorem dX3_append_7 : decode cX3_append 7 = .ok (.istore 7, 2) := by decide +kernel
theorem dX3_append_9 : decode cX3_append 9 = .ok (.aload_n 0, 1) := by decide +kernel
theorem dX3_append_10 : decode cX3_append 10 = .ok (.getfield 11, 3) := by decide +kernel
theorem dX3_append_13 : decode cX3_append 13 = .ok (.iload 7, 2) := by decide +kernel
theorem dX3_append_15 : decode cX3_append 15 = .ok (.iload_n 1, 1) := by decide +kernel
theorem dX3_append_16 : decode cX3_append 16 = .ok (.iastore, 1) := by decide +kernel
theorem dX3_append_17 : decode cX3_append 17 = .ok (.aload_n 0, 1) := by decide +kernel
theorem dX3_append_18 : decode cX3_append 18 = .ok (.getfield 11, 3) := by decide +kernel
theorem dX3_append_21 : decode cX3_append 21 = .ok (.iload 7, 2) := by decide +kernel
theorem dX3_append_23 : decode cX3_append 23 = .ok (.iconst 1, 1) := by decide +kernel
theorem dX3_append_24 : decode cX3_append 24 = .ok (.iadd, 1) := by decide +kernel
theorem dX3_append_25 : decode cX3_append 25 = .ok (.iload_n 2, 1) := by decide +kernel
theorem dX3_append_26 : decode cX3_append 26 = .ok (.iastore, 1) := by decide +kernel
theorem dX3_append_27 : decode cX3_append 27 = .ok (.aload_n 0, 1) := by decide +kernel
theorem dX3_append_28 : decode cX3_append 28 = .ok (.getfield 11, 3) := by decide +kernel
theorem dX3_append_31 : decode cX3_append 31 = .ok (.iload 7, 2) := by decide +kernel
theorem dX3_append_33 : decode cX3_append 33 = .ok (.iconst 2, 1) := by decide +kernel
theorem dX3_append_34 : decode cX3_append 34 = .ok (.iadd, 1) := by decide +kernel
theorem dX3_append_35 : decode cX3_append 35 = .ok (.iload_n 3, 1) := by decide +kernel
theorem dX3_append_36 : decode cX3_append 36 = .ok (.iastore, 1) := by decide +kernel
theorem dX3_append_37 : decode cX3_append 37 = .ok (.aload_n 0, 1) := by decide +kernel
theorem dX3_append_38 : decode cX3_append 38 = .ok (.getfield 11, 3) := by decide +kernel
theorem dX3_append_41 : decode cX3_append 41 = .ok (.iload 7, 2) := by decide +kernel
theorem dX3_append_43 : decode cX3_append 43 = .ok (.iconst 3, 1) := by decide +kernel
theorem dX3_append_44 : decode cX3_append 44 = .ok (.iadd, 1) := by decide +kernel
theorem dX3_append_45 : decode cX3_append 45 = .ok (.iload 4, 2) := by decide +kernel
theorem dX3_append_47 : decode cX3_append 47 = .ok (.iastore, 1) := by decide +kernel
theorem dX3_append_48 : decode cX3_append 48 = .ok (.aload_n 0, 1) := by decide +kernel
theorem dX3_append_49 : decode cX3_append 49 = .ok (.getfield 11, 3) := by decide +kernel
theorem dX3_append_52 : decode cX3_append 52 = .ok (.iload 7, 2) := by decide +kernel
theorem dX3_append_54 : decode cX3_append 54 = .ok (.iconst 4, 1) := by decide +kernel
theorem dX3_append_55 : decode cX3_append 55 = .ok (.iadd, 1) := by decide +kernel
theorem dX3_append_56 : decode cX3_append 56 = .ok (.iload 5, 2) := by decide +kernel
theorem dX3_append_58 : decode cX3_append 58 = .ok (.iastore, 1) := by decide +kernel
theorem dX3_append_59 : decode cX3_append 59 = .ok (.aload_n 0, 1) := by decide +kernel
theorem dX3_append_60 : decode cX3_append 60 = .ok (.getfield 11, 3) := by decide +kernel
theorem dX3_append_63 : decode cX3_append 63 = .ok (.iload 7, 2) := by decide +kernel
theorem dX3_append_65 : decode cX3_append 65 = .ok (.iconst 5, 1) := by decide +kernel
theorem dX3_append_66 : decode cX3_append 66 = .ok (.iadd, 1) := by decide +kernel
theorem dX3_append_67 : decode cX3_append 67 = .ok (.iload 6, 2) := by decide +kernel
theorem dX3_append_69 : decode cX3_append 69 = .ok (.iastore, 1) := by decide +kernel
theorem dX3_append_70 : decode cX3_append 70 = .ok (.aload_n 0, 1) := by decide +kernel
theorem dX3_append_71 : decode cX3_append 71 = .ok (.getfield 15, 3) := by decide +kernel
theorem dX3_append_74 : decode cX3_append 74 = .ok (.aload_n 0, 1) := by decide +kernel
theorem dX3_append_75 : decode cX3_append 75 = .ok (.getfield 19, 3) := by decide +kernel
theorem dX3_append_78 : decode cX3_append 78 = .ok (.iconst 0, 1) := by decide +kernel
theorem dX3_append_79 : decode cX3_append 79 = .ok (.bastore, 1) := by decide +kernel
theorem dX3_append_80 : decode cX3_append 80 = .ok (.aload_n 0, 1) := by decide +kernel
theorem dX3_append_81 : decode cX3_append 81 = .ok (.dup, 1) := by decide +kernel
theorem dX3_append_82 : decode cX3_append 82 = .ok (.getfield 19, 3) := by decide +kernel
theorem dX3_append_85 : decode cX3_append 85 = .ok (.iconst 1, 1) := by decide +kernel
theorem dX3_append_86 : decode cX3_append 86 = .ok (.iadd, 1) := by decide +kernel
theorem dX3_append_87 : decode cX3_append 87 = .ok (.putfield 19, 3) := by decide +kernel
theorem dX3_append_90 : decode cX3_append 90 = .ok (.aload_n 0, 1) := by decide +kernel
theorem dX3_append_91 : decode cX3_append 91 = .ok (.getfield 19, 3) := by decide +kernel
theorem dX3_append_94 : decode cX3_append 94 = .ok (.iconst 1, 1) := by decide +kernel
theorem dX3_append_95 : decode cX3_append 95 = .ok (.isub, 1) := by decide +kernel
theorem dX3_append_96 : decode cX3_append 96 = .ok (.ireturn, 1) := by decide +kernel
theorem dX3_removeAll_0 : decode cX3_removeAll 0 = .ok (.aload_n 0, 1) := by decide +kernel
theorem dX3_removeAll_1 : decode cX3_removeAll 1 = .ok (.iconst 0, 1) := by decide +kernel
theorem dX3_removeAll_2 : decode cX3_removeAll 2 = .ok (.putfield 19, 3) := by decide +kernel
theorem dX3_removeAll_5 : decode cX3_removeAll 5 = .ok (.return_, 1) := by decide +kernel
theorem dX3_countKept_0 : decode cX3_countKept 0 = .ok (.iconst 0, 1) := by decide +kernel
theorem dX3_countKept_1 : decode cX3_countKept 1 = .ok (.istore_n 1, 1) := by decide +kernel
theorem dX3_countKept_2 : decode cX3_countKept 2 = .ok (.iconst 0, 1) := by decide +kernel
theorem dX3_countKept_3 : decode cX3_countKept 3 = .ok (.istore_n 2, 1) := by decide +kernel
theorem dX3_countKept_4 : decode cX3_countKept 4 = .ok (.iload_n 2, 1) := by decide +kernel
theorem dX3_countKept_5 : decode cX3_countKept 5 = .ok (.aload_n 0, 1) := by decide +kernel
theorem dX3_countKept_6 : decode cX3_countKept 6 = .ok (.getfield 19, 3) := by decide +kernel
theorem dX3_countKept_9 : decode cX3_countKept 9 = .ok (.if_icmp .ge 21, 3) := by decide +kernel
theorem dX3_countKept_12 : decode cX3_countKept 12 = .ok (.aload_n 0, 1) := by decide +kernel
theorem dX3_countKept_13 : decode cX3_countKept 13 = .ok (.getfield 15, 3) := by decide +kernel
theorem dX3_countKept_16 : decode cX3_countKept 16 = .ok (.iload_n 2, 1) := by decide +kernel
theorem dX3_countKept_17 : decode cX3_countKept 17 = .ok (.baload, 1) := by decide +kernel
theorem dX3_countKept_18 : decode cX3_countKept 18 = .ok (.ifCond .ne 6, 3) := by decide +kernel
theorem dX3_countKept_21 : decode cX3_countKept 21 = .ok (.iinc 1 1, 3) := by decide +kernel
theorem dX3_countKept_24 : decode cX3_countKept 24 = .ok (.iinc 2 1, 3) := by decide +kernel
theorem dX3_countKept_27 : decode cX3_countKept 27 = .ok (.goto (-23), 3) := by decide +kernel
theorem dX3_countKept_30 : decode cX3_countKept 30 = .ok (.iload_n 1, 1) := by decide +kernel
theorem dX3_countKept_31 : decode cX3_countKept 31 = .ok (.ireturn, 1) := by decide +kernel
theorem dJ13_bitCount_95d88_0 : decode cJ13_bitCount_95d88 0 = .ok (.lload_n 0, 1) := by decide +kernel
theorem dJ13_bitCount_95d88_1 : decode cJ13_bitCount_95d88 1 = .ok (.lload_n 0, 1) := by decide +kernel
theorem dJ13_bitCount_95d88_2 : decode cJ13_bitCount_95d88 2 = .ok (.iconst 1, 1) := by decide +kernel
theorem dJ13_bitCount_95d88_3 : decode cJ13_bitCount_95d88 3 = .ok (.lushr, 1) := by decide +kernel
theorem dJ13_bitCount_95d88_4 : decode cJ13_bitCount_95d88 4 = .ok (.ldc2_w 314, 3) := by decide +kernel
theorem dJ13_bitCount_95d88_7 : decode cJ13_bitCount_95d88 7 = .ok (.land, 1) := by decide +kernel
theorem dJ13_bitCount_95d88_8 : decode cJ13_bitCount_95d88 8 = .ok (.lsub, 1) := by decide +kernel
theorem dJ13_bitCount_95d88_9 : decode cJ13_bitCount_95d88 9 = .ok (.lstore_n 0, 1) := by decide +kernel
theorem dJ13_bitCount_95d88_10 : decode cJ13_bitCount_95d88 10 = .ok (.lload_n 0, 1) := by decide +kernel
theorem dJ13_bitCount_95d88_11 : decode cJ13_bitCount_95d88 11 = .ok (.ldc2_w 316, 3) := by decide +kernel
theorem dJ13_bitCount_95d88_14 : decode cJ13_bitCount_95d88 14 = .ok (.land, 1) := by decide +kernel
theorem dJ13_bitCount_95d88_15 : decode cJ13_bitCount_95d88 15 = .ok (.lload_n 0, 1) := by decide +kernel
theorem dJ13_bitCount_95d88_16 : decode cJ13_bitCount_95d88 16 = .ok (.iconst 2, 1) := by decide +kernel
theorem dJ13_bitCount_95d88_17 : decode cJ13_bitCount_95d88 17 = .ok (.lushr, 1) := by decide +kernel
theorem dJ13_bitCount_95d88_18 : decode cJ13_bitCount_95d88 18 = .ok (.ldc2_w 316, 3) := by decide +kernel
theorem dJ13_bitCount_95d88_21 : decode cJ13_bitCount_95d88 21 = .ok (.land, 1) := by decide +kernel
theorem dJ13_bitCount_95d88_22 : decode cJ13_bitCount_95d88 22 = .ok (.ladd, 1) := by decide +kernel
theorem dJ13_bitCount_95d88_23 : decode cJ13_bitCount_95d88 23 = .ok (.lstore_n 0, 1) := by decide +kernel
theorem dJ13_bitCount_95d88_24 : decode cJ13_bitCount_95d88 24 = .ok (.lload_n 0, 1) := by decide +kernel
theorem dJ13_bitCount_95d88_25 : decode cJ13_bitCount_95d88 25 = .ok (.lload_n 0, 1) := by decide +kernel
theorem dJ13_bitCount_95d88_26 : decode cJ13_bitCount_95d88 26 = .ok (.iconst 4, 1) := by decide +kernel
theorem dJ13_bitCount_95d88_27 : decode cJ13_bitCount_95d88 27 = .ok (.lushr, 1) := by decide +kernel
theorem dJ13_bitCount_95d88_28 : decode cJ13_bitCount_95d88 28 = .ok (.ladd, 1) := by decide +kernel
theorem dJ13_bitCount_95d88_29 : decode cJ13_bitCount_95d88 29 = .ok (.ldc2_w 318, 3) := by decide +kernel
theorem dJ13_bitCount_95d88_32 : decode cJ13_bitCount_95d88 32 = .ok (.land, 1) := by decide +kernel
theorem dJ13_bitCount_95d88_33 : decode cJ13_bitCount_95d88 33 = .ok (.lstore_n 0, 1) := by decide +kernel
theorem dJ13_bitCount_95d88_34 : decode cJ13_bitCount_95d88 34 = .ok (.lload_n 0, 1) := by decide +kernel
theorem dJ13_bitCount_95d88_35 : decode cJ13_bitCount_95d88 35 = .ok (.lload_n 0, 1) := by decide +kernel
theorem dJ13_bitCount_95d88_36 : decode cJ13_bitCount_95d88 36 = .ok (.bipush 8, 2) := by decide +kernel
theorem dJ13_bitCount_95d88_38 : decode cJ13_bitCount_95d88 38 = .ok (.lushr, 1) := by decide +kernel
theorem dJ13_bitCount_95d88_39 : decode cJ13_bitCount_95d88 39 = .ok (.ladd, 1) := by decide +kernel
theorem dJ13_bitCount_95d88_40 : decode cJ13_bitCount_95d88 40 = .ok (.lstore_n 0, 1) := by decide +kernel
theorem dJ13_bitCount_95d88_41 : decode cJ13_bitCount_95d88 41 = .ok (.lload_n 0, 1) := by decide +kernel
theorem dJ13_bitCount_95d88_42 : decode cJ13_bitCount_95d88 42 = .ok (.lload_n 0, 1) := by decide +kernel
theorem dJ13_bitCount_95d88_43 : decode cJ13_bitCount_95d88 43 = .ok (.bipush 16, 2) := by decide +kernel
theorem dJ13_bitCount_95d88_45 : decode cJ13_bitCount_95d88 45 = .ok (.lushr, 1) := by decide +kernel
theorem dJ13_bitCount_95d88_46 : decode cJ13_bitCount_95d88 46 = .ok (.ladd, 1) := by decide +kernel
theorem dJ13_bitCount_95d88_47 : decode cJ13_bitCount_95d88 47 = .ok (.lstore_n 0, 1) := by decide +kernel
theorem dJ13_bitCount_95d88_48 : decode cJ13_bitCount_95d88 48 = .ok (.lload_n 0, 1) := by decide +kernel
theorem dJ13_bitCount_95d88_49 : decode cJ13_bitCount_95d88 49 = .ok (.lload_n 0, 1) := by decide +kernel
theorem dJ13_bitCount_95d88_50 : decode cJ13_bitCount_95d88 50 = .ok (.bipush 32, 2) := by decide +kernel
theorem dJ13_bitCount_95d88_52 : decode cJ13_bitCount_95d88 52 = .ok (.lushr, 1) := by decide +kernel
theorem dJ13_bitCount_95d88_53 : decode cJ13_bitCount_95d88 53 = .ok (.ladd, 1) := by decide +kernel
theorem dJ13_bitCount_95d88_54 : decode cJ13_bitCount_95d88 54 = .ok (.lstore_n 0, 1) := by decide +kernel
theorem dJ13_bitCount_95d88_55 : decode cJ13_bitCount_95d88 55 = .ok (.lload_n 0, 1) := by decide +kernel
theorem dJ13_bitCount_95d88_56 : decode cJ13_bitCount_95d88 56 = .ok (.l2i, 1) := by decide +kernel
theorem dJ13_bitCount_95d88_57 : decode cJ13_bitCount_95d88 57 = .ok (.bipush 127, 2) := by decide +kernel
theorem dJ13_bitCount_95d88_59 : decode cJ13_bitCount_95d88 59 = .ok (.iand, 1) := by decide +kernel
theorem dJ13_bitCount_95d88_60 : decode cJ13_bitCount_95d88 60 = .ok (.ireturn, 1) := by decide +kernel
end
section
theorem dX4_init_0 : decode cX4_init 0 = .ok (.aload_n 0, 1) := by decide +kernel
theorem dX4_init_1 : decode cX4_init 1 = .ok (.invokespecial 1, 3) := by decide +kernel
theorem dX4_init_4 : decode cX4_init 4 = .ok (.aload_n 0, 1) := by decide +kernel
theorem dX4_init_5 : decode cX4_init 5 = .ok (.new 7, 3) := by decide +kernel
theorem dX4_init_8 : decode cX4_init 8 = .ok (.dup, 1) := by decide +kernel
theorem dX4_init_9 : decode cX4_init 9 = .ok (.invokespecial 9, 3) := by decide +kernel
theorem dX4_init_12 : decode cX4_init 12 = .ok (.putfield 10, 3) := by decide +kernel
theorem dX4_init_15 : decode cX4_init 15 = .ok (.aload_n 0, 1) := by decide +kernel
theorem dX4_init_16 : decode cX4_init 16 = .ok (.new 16, 3) := by decide +kernel
theorem dX4_init_19 : decode cX4_init 19 = .ok (.dup, 1) := by decide +kernel
theorem dX4_init_20 : decode cX4_init 20 = .ok (.invokespecial 18, 3) := by decide +kernel
theorem dX4_init_23 : decode cX4_init 23 = .ok (.putfield 19, 3) := by decide +kernel
theorem dX4_init_26 : decode cX4_init 26 = .ok (.aload_n 0, 1) := by decide +kernel
theorem dX4_init_27 : decode cX4_init 27 = .ok (.new 23, 3) := by decide +kernel
theorem dX4_init_30 : decode cX4_init 30 = .ok (.dup, 1) := by decide +kernel
theorem dX4_init_31 : decode cX4_init 31 = .ok (.invokespecial 25, 3) := by decide +kernel
theorem dX4_init_34 : decode cX4_init 34 = .ok (.putfield 26, 3) := by decide +kernel
theorem dX4_init_37 : decode cX4_init 37 = .ok (.aload_n 0, 1) := by decide +kernel
theorem dX4_init_38 : decode cX4_init 38 = .ok (.iconst 0, 1) := by decide +kernel
theorem dX4_init_39 : decode cX4_init 39 = .ok (.putfield 30, 3) := by decide +kernel
theorem dX4_init_42 : decode cX4_init 42 = .ok (.return_, 1) := by decide +kernel
theorem dX4_clear_0 : decode cX4_clear 0 = .ok (.aload_n 0, 1) := by decide +kernel
theorem dX4_clear_1 : decode cX4_clear 1 = .ok (.getfield 10, 3) := by decide +kernel
theorem dX4_clear_4 : decode cX4_clear 4 = .ok (.getfield 34, 3) := by decide +kernel
theorem dX4_clear_7 : decode cX4_clear 7 = .ok (.istore_n 1, 1) := by decide +kernel
theorem dX4_clear_8 : decode cX4_clear 8 = .ok (.aload_n 0, 1) := by decide +kernel
theorem dX4_clear_9 : decode cX4_clear 9 = .ok (.getfield 10, 3) := by decide +kernel
theorem dX4_clear_12 : decode cX4_clear 12 = .ok (.invokevirtual 37, 3) := by decide +kernel
theorem dX4_clear_15 : decode cX4_clear 15 = .ok (.aload_n 0, 1) := by decide +kernel
theorem dX4_clear_16 : decode cX4_clear 16 = .ok (.invokevirtual 40, 3) := by decide +kernel
theorem dX4_clear_19 : decode cX4_clear 19 = .ok (.iload_n 1, 1) := by decide +kernel
theorem dX4_clear_20 : decode cX4_clear 20 = .ok (.ireturn, 1) := by decide +kernel
theorem dX4_act_0 : decode cX4_act 0 = .ok (.iload_n 1, 1) := by decide +kernel
theorem dX4_act_1 : decode cX4_act 1 = .ok (.iload_n 2, 1) := by decide +kernel
theorem dX4_act_2 : decode cX4_act 2 = .ok (.iload_n 3, 1) := by decide +kernel
theorem dX4_act_3 : decode cX4_act 3 = .ok (.iload 4, 2) := by decide +kernel
theorem dX4_act_5 : decode cX4_act 5 = .ok (.iload 5, 2) := by decide +kernel
theorem dX4_act_7 : decode cX4_act 7 = .ok (.iload 6, 2) := by decide +kernel
theorem dX4_act_9 : decode cX4_act 9 = .ok (.invokestatic 43, 3) := by decide +kernel
theorem dX4_act_12 : decode cX4_act 12 = .ok (.ifCond .ne 6, 3) := by decide +kernel
theorem dX4_act_15 : decode cX4_act 15 = .ok (.bipush (-2), 2) := by decide +kernel
theorem dX4_act_17 : decode cX4_act 17 = .ok (.ireturn, 1) := by decide +kernel
theorem dX4_act_18 : decode cX4_act 18 = .ok (.aload_n 0, 1) := by decide +kernel
theorem dX4_act_19 : decode cX4_act 19 = .ok (.getfield 10, 3) := by decide +kernel
theorem dX4_act_22 : decode cX4_act 22 = .ok (.getfield 34, 3) := by decide +kernel
theorem dX4_act_25 : decode cX4_act 25 = .ok (.bipush 40, 2) := by decide +kernel
theorem dX4_act_27 : decode cX4_act 27 = .ok (.if_icmp .lt 6, 3) := by decide +kernel
theorem dX4_act_30 : decode cX4_act 30 = .ok (.bipush (-4), 2) := by decide +kernel
theorem dX4_act_32 : decode cX4_act 32 = .ok (.ireturn, 1) := by decide +kernel
theorem dX4_act_33 : decode cX4_act 33 = .ok (.aload_n 0, 1) := by decide +kernel
theorem dX4_act_34 : decode cX4_act 34 = .ok (.getfield 10, 3) := by decide +kernel
theorem dX4_act_37 : decode cX4_act 37 = .ok (.iload_n 1, 1) := by decide +kernel
theorem dX4_act_38 : decode cX4_act 38 = .ok (.iload_n 2, 1) := by decide +kernel
theorem dX4_act_39 : decode cX4_act 39 = .ok (.iload_n 3, 1) := by decide +kernel
theorem dX4_act_40 : decode cX4_act 40 = .ok (.iload 4, 2) := by decide +kernel
theorem dX4_act_42 : decode cX4_act 42 = .ok (.iload 5, 2) := by decide +kernel
theorem dX4_act_44 : decode cX4_act 44 = .ok (.iload 6, 2) := by decide +kernel
theorem dX4_act_46 : decode cX4_act 46 = .ok (.invokevirtual 47, 3) := by decide +kernel
theorem dX4_act_49 : decode cX4_act 49 = .ok (.istore 7, 2) := by decide +kernel
theorem dX4_act_51 : decode cX4_act 51 = .ok (.aload_n 0, 1) := by decide +kernel
theorem dX4_act_52 : decode cX4_act 52 = .ok (.invokevirtual 40, 3) := by decide +kernel
theorem dX4_act_55 : decode cX4_act 55 = .ok (.iload 7, 2) := by decide +kernel
theorem dX4_act_57 : decode cX4_act 57 = .ok (.ireturn, 1) := by decide +kernel
theorem dX4_drop_0 : decode cX4_drop 0 = .ok (.aload_n 0, 1) := by decide +kernel
theorem dX4_drop_1 : decode cX4_drop 1 = .ok (.getfield 10, 3) := by decide +kernel
theorem dX4_drop_4 : decode cX4_drop 4 = .ok (.iload_n 1, 1) := by decide +kernel
theorem dX4_drop_5 : decode cX4_drop 5 = .ok (.invokevirtual 51, 3) := by decide +kernel
theorem dX4_drop_8 : decode cX4_drop 8 = .ok (.ifCond .ne 6, 3) := by decide +kernel
theorem dX4_drop_11 : decode cX4_drop 11 = .ok (.bipush (-2), 2) := by decide +kernel
theorem dX4_drop_13 : decode cX4_drop 13 = .ok (.ireturn, 1) := by decide +kernel
theorem dX4_drop_14 : decode cX4_drop 14 = .ok (.aload_n 0, 1) := by decide +kernel
theorem dX4_drop_15 : decode cX4_drop 15 = .ok (.getfield 10, 3) := by decide +kernel
theorem dX4_drop_18 : decode cX4_drop 18 = .ok (.getfield 55, 3) := by decide +kernel
theorem dX4_drop_21 : decode cX4_drop 21 = .ok (.iload_n 1, 1) := by decide +kernel
theorem dX4_drop_22 : decode cX4_drop 22 = .ok (.baload, 1) := by decide +kernel
theorem dX4_drop_23 : decode cX4_drop 23 = .ok (.ifCond .eq 5, 3) := by decide +kernel
theorem dX4_drop_26 : decode cX4_drop 26 = .ok (.iconst 0, 1) := by decide +kernel
theorem dX4_drop_27 : decode cX4_drop 27 = .ok (.ireturn, 1) := by decide +kernel
theorem dX4_drop_28 : decode cX4_drop 28 = .ok (.aload_n 0, 1) := by decide +kernel
theorem dX4_drop_29 : decode cX4_drop 29 = .ok (.getfield 10, 3) := by decide +kernel
theorem dX4_drop_32 : decode cX4_drop 32 = .ok (.getfield 55, 3) := by decide +kernel
theorem dX4_drop_35 : decode cX4_drop 35 = .ok (.iload_n 1, 1) := by decide +kernel
theorem dX4_drop_36 : decode cX4_drop 36 = .ok (.iconst 1, 1) := by decide +kernel
theorem dX4_drop_37 : decode cX4_drop 37 = .ok (.bastore, 1) := by decide +kernel
theorem dX4_drop_38 : decode cX4_drop 38 = .ok (.aload_n 0, 1) := by decide +kernel
theorem dX4_drop_39 : decode cX4_drop 39 = .ok (.invokevirtual 40, 3) := by decide +kernel
theorem dX4_drop_42 : decode cX4_drop 42 = .ok (.iconst 1, 1) := by decide +kernel
theorem dX4_drop_43 : decode cX4_drop 43 = .ok (.ireturn, 1) := by decide +kernel
theorem dX4_reached_0 : decode cX4_reached 0 = .ok (.aload_n 0, 1) := by decide +kernel
theorem dX4_reached_1 : decode cX4_reached 1 = .ok (.getfield 10, 3) := by decide +kernel
theorem dX4_reached_4 : decode cX4_reached 4 = .ok (.iload_n 1, 1) := by decide +kernel
theorem dX4_reached_5 : decode cX4_reached 5 = .ok (.invokevirtual 51, 3) := by decide +kernel
theorem dX4_reached_8 : decode cX4_reached 8 = .ok (.ifCond .ne 6, 3) := by decide +kernel
theorem dX4_reached_11 : decode cX4_reached 11 = .ok (.bipush (-2), 2) := by decide +kernel
theorem dX4_reached_13 : decode cX4_reached 13 = .ok (.ireturn, 1) := by decide +kernel
theorem dX4_reached_14 : decode cX4_reached 14 = .ok (.aload_n 0, 1) := by decide +kernel
theorem dX4_reached_15 : decode cX4_reached 15 = .ok (.getfield 19, 3) := by decide +kernel
theorem dX4_reached_18 : decode cX4_reached 18 = .ok (.aload_n 0, 1) := by decide +kernel
theorem dX4_reached_19 : decode cX4_reached 19 = .ok (.getfield 10, 3) := by decide +kernel
theorem dX4_reached_22 : decode cX4_reached 22 = .ok (.invokevirtual 59, 3) := by decide +kernel
theorem dX4_reached_25 : decode cX4_reached 25 = .ok (.aload_n 0, 1) := by decide +kernel
theorem dX4_reached_26 : decode cX4_reached 26 = .ok (.getfield 19, 3) := by decide +kernel
theorem dX4_reached_29 : decode cX4_reached 29 = .ok (.getfield 63, 3) := by decide +kernel
theorem dX4_reached_32 : decode cX4_reached 32 = .ok (.iload_n 1, 1) := by decide +kernel
theorem dX4_reached_33 : decode cX4_reached 33 = .ok (.baload, 1) := by decide +kernel
theorem dX4_reached_34 : decode cX4_reached 34 = .ok (.ifCond .eq 7, 3) := by decide +kernel
theorem dX4_reached_37 : decode cX4_reached 37 = .ok (.iconst 1, 1) := by decide +kernel
theorem dX4_reached_38 : decode cX4_reached 38 = .ok (.goto 4, 3) := by decide +kernel
theorem dX4_reached_41 : decode cX4_reached 41 = .ok (.iconst 0, 1) := by decide +kernel
theorem dX4_reached_42 : decode cX4_reached 42 = .ok (.ireturn, 1) := by decide +kernel
theorem dX4_throwsAt_0 : decode cX4_throwsAt 0 = .ok (.aload_n 0, 1) := by decide +kernel
theorem dX4_throwsAt_1 : decode cX4_throwsAt 1 = .ok (.getfield 10, 3) := by decide +kernel
theorem dX4_throwsAt_4 : decode cX4_throwsAt 4 = .ok (.iload_n 1, 1) := by decide +kernel
theorem dX4_throwsAt_5 : decode cX4_throwsAt 5 = .ok (.invokevirtual 51, 3) := by decide +kernel
theorem dX4_throwsAt_8 : decode cX4_throwsAt 8 = .ok (.ifCond .ne 6, 3) := by decide +kernel
theorem dX4_throwsAt_11 : decode cX4_throwsAt 11 = .ok (.bipush (-2), 2) := by decide +kernel
theorem dX4_throwsAt_13 : decode cX4_throwsAt 13 = .ok (.ireturn, 1) := by decide +kernel
theorem dX4_throwsAt_14 : decode cX4_throwsAt 14 = .ok (.aload_n 0, 1) := by decide +kernel
theorem dX4_throwsAt_15 : decode cX4_throwsAt 15 = .ok (.getfield 19, 3) := by decide +kernel
theorem dX4_throwsAt_18 : decode cX4_throwsAt 18 = .ok (.aload_n 0, 1) := by decide +kernel
theorem dX4_throwsAt_19 : decode cX4_throwsAt 19 = .ok (.getfield 10, 3) := by decide +kernel
theorem dX4_throwsAt_22 : decode cX4_throwsAt 22 = .ok (.invokevirtual 59, 3) := by decide +kernel
theorem dX4_throwsAt_25 : decode cX4_throwsAt 25 = .ok (.aload_n 0, 1) := by decide +kernel
theorem dX4_throwsAt_26 : decode cX4_throwsAt 26 = .ok (.getfield 19, 3) := by decide +kernel
theorem dX4_throwsAt_29 : decode cX4_throwsAt 29 = .ok (.getfield 66, 3) := by decide +kernel
theorem dX4_throwsAt_32 : decode cX4_throwsAt 32 = .ok (.iload_n 1, 1) := by decide +kernel
theorem dX4_throwsAt_33 : decode cX4_throwsAt 33 = .ok (.iaload, 1) := by decide +kernel
theorem dX4_throwsAt_34 : decode cX4_throwsAt 34 = .ok (.ireturn, 1) := by decide +kernel
theorem dX4_ends_0 : decode cX4_ends 0 = .ok (.aload_n 0, 1) := by decide +kernel
theorem dX4_ends_1 : decode cX4_ends 1 = .ok (.getfield 19, 3) := by decide +kernel
theorem dX4_ends_4 : decode cX4_ends 4 = .ok (.aload_n 0, 1) := by decide +kernel
theorem dX4_ends_5 : decode cX4_ends 5 = .ok (.getfield 10, 3) := by decide +kernel
theorem dX4_ends_8 : decode cX4_ends 8 = .ok (.invokevirtual 59, 3) := by decide +kernel
theorem dX4_ends_11 : decode cX4_ends 11 = .ok (.aload_n 0, 1) := by decide +kernel
theorem dX4_ends_12 : decode cX4_ends 12 = .ok (.getfield 19, 3) := by decide +kernel
theorem dX4_ends_15 : decode cX4_ends 15 = .ok (.getfield 70, 3) := by decide +kernel
theorem dX4_ends_18 : decode cX4_ends 18 = .ok (.getfield 74, 3) := by decide +kernel
theorem dX4_ends_21 : decode cX4_ends 21 = .ok (.ifCond .eq 7, 3) := by decide +kernel
theorem dX4_ends_24 : decode cX4_ends 24 = .ok (.iconst 1, 1) := by decide +kernel
theorem dX4_ends_25 : decode cX4_ends 25 = .ok (.goto 4, 3) := by decide +kernel
theorem dX4_ends_28 : decode cX4_ends 28 = .ok (.iconst 0, 1) := by decide +kernel
theorem dX4_ends_29 : decode cX4_ends 29 = .ok (.ireturn, 1) := by decide +kernel
theorem dX4_variable_0 : decode cX4_variable 0 = .ok (.iload_n 1, 1) := by decide +kernel
theorem dX4_variable_1 : decode cX4_variable 1 = .ok (.invokestatic 79, 3) := by decide +kernel
theorem dX4_variable_4 : decode cX4_variable 4 = .ok (.ifCond .eq 12, 3) := by decide +kernel
theorem dX4_variable_7 : decode cX4_variable 7 = .ok (.iload_n 2, 1) := by decide +kernel
theorem dX4_variable_8 : decode cX4_variable 8 = .ok (.ifCond .lt 8, 3) := by decide +kernel
theorem dX4_variable_11 : decode cX4_variable 11 = .ok (.iload_n 2, 1) := by decide +kernel
theorem dX4_variable_12 : decode cX4_variable 12 = .ok (.iconst 1, 1) := by decide +kernel
theorem dX4_variable_13 : decode cX4_variable 13 = .ok (.if_icmp .le 10, 3) := by decide +kernel
theorem dX4_variable_16 : decode cX4_variable 16 = .ok (.aload_n 0, 1) := by decide +kernel
theorem dX4_variable_17 : decode cX4_variable 17 = .ok (.bipush (-2), 2) := by decide +kernel
theorem dX4_variable_19 : decode cX4_variable 19 = .ok (.invokevirtual 82, 3) := by decide +kernel
theorem dX4_variable_22 : decode cX4_variable 22 = .ok (.ireturn, 1) := by decide +kernel
theorem dX4_variable_23 : decode cX4_variable 23 = .ok (.aload_n 0, 1) := by decide +kernel
theorem dX4_variable_24 : decode cX4_variable 24 = .ok (.getfield 19, 3) := by decide +kernel
theorem dX4_variable_27 : decode cX4_variable 27 = .ok (.aload_n 0, 1) := by decide +kernel
theorem dX4_variable_28 : decode cX4_variable 28 = .ok (.getfield 10, 3) := by decide +kernel
theorem dX4_variable_31 : decode cX4_variable 31 = .ok (.invokevirtual 59, 3) := by decide +kernel
theorem dX4_variable_34 : decode cX4_variable 34 = .ok (.aload_n 0, 1) := by decide +kernel
theorem dX4_variable_35 : decode cX4_variable 35 = .ok (.getfield 19, 3) := by decide +kernel
theorem dX4_variable_38 : decode cX4_variable 38 = .ok (.getfield 70, 3) := by decide +kernel
theorem dX4_variable_41 : decode cX4_variable 41 = .ok (.getfield 74, 3) := by decide +kernel
theorem dX4_variable_44 : decode cX4_variable 44 = .ok (.ifCond .ne 10, 3) := by decide +kernel
theorem dX4_variable_47 : decode cX4_variable 47 = .ok (.aload_n 0, 1) := by decide +kernel
theorem dX4_variable_48 : decode cX4_variable 48 = .ok (.bipush (-3), 2) := by decide +kernel
theorem dX4_variable_50 : decode cX4_variable 50 = .ok (.invokevirtual 82, 3) := by decide +kernel
theorem dX4_variable_53 : decode cX4_variable 53 = .ok (.ireturn, 1) := by decide +kernel
theorem dX4_variable_54 : decode cX4_variable 54 = .ok (.aload_n 0, 1) := by decide +kernel
theorem dX4_variable_55 : decode cX4_variable 55 = .ok (.iload_n 2, 1) := by decide +kernel
theorem dX4_variable_56 : decode cX4_variable 56 = .ok (.ifCond .ne 18, 3) := by decide +kernel
theorem dX4_variable_59 : decode cX4_variable 59 = .ok (.aload_n 0, 1) := by decide +kernel
theorem dX4_variable_60 : decode cX4_variable 60 = .ok (.getfield 19, 3) := by decide +kernel
theorem dX4_variable_63 : decode cX4_variable 63 = .ok (.getfield 70, 3) := by decide +kernel
theorem dX4_variable_66 : decode cX4_variable 66 = .ok (.getfield 86, 3) := by decide +kernel
theorem dX4_variable_69 : decode cX4_variable 69 = .ok (.iload_n 1, 1) := by decide +kernel
theorem dX4_variable_70 : decode cX4_variable 70 = .ok (.iaload, 1) := by decide +kernel
theorem dX4_variable_71 : decode cX4_variable 71 = .ok (.goto 15, 3) := by decide +kernel
theorem dX4_variable_74 : decode cX4_variable 74 = .ok (.aload_n 0, 1) := by decide +kernel
theorem dX4_variable_75 : decode cX4_variable 75 = .ok (.getfield 19, 3) := by decide +kernel
theorem dX4_variable_78 : decode cX4_variable 78 = .ok (.getfield 70, 3) := by decide +kernel
theorem dX4_variable_81 : decode cX4_variable 81 = .ok (.getfield 89, 3) := by decide +kernel
theorem dX4_variable_84 : decode cX4_variable 84 = .ok (.iload_n 1, 1) := by decide +kernel
theorem dX4_variable_85 : decode cX4_variable 85 = .ok (.iaload, 1) := by decide +kernel
theorem dX4_variable_86 : decode cX4_variable 86 = .ok (.invokevirtual 92, 3) := by decide +kernel
theorem dX4_variable_89 : decode cX4_variable 89 = .ok (.ireturn, 1) := by decide +kernel
theorem dX4_reference_0 : decode cX4_reference 0 = .ok (.iload_n 1, 1) := by decide +kernel
theorem dX4_reference_1 : decode cX4_reference 1 = .ok (.invokestatic 95, 3) := by decide +kernel
theorem dX4_reference_4 : decode cX4_reference 4 = .ok (.ifCond .ne 6, 3) := by decide +kernel
theorem dX4_reference_7 : decode cX4_reference 7 = .ok (.bipush (-2), 2) := by decide +kernel
theorem dX4_reference_9 : decode cX4_reference 9 = .ok (.ireturn, 1) := by decide +kernel
theorem dX4_reference_10 : decode cX4_reference 10 = .ok (.aload_n 0, 1) := by decide +kernel
theorem dX4_reference_11 : decode cX4_reference 11 = .ok (.getfield 19, 3) := by decide +kernel
theorem dX4_reference_14 : decode cX4_reference 14 = .ok (.aload_n 0, 1) := by decide +kernel
theorem dX4_reference_15 : decode cX4_reference 15 = .ok (.getfield 10, 3) := by decide +kernel
theorem dX4_reference_18 : decode cX4_reference 18 = .ok (.invokevirtual 59, 3) := by decide +kernel
theorem dX4_reference_21 : decode cX4_reference 21 = .ok (.aload_n 0, 1) := by decide +kernel
theorem dX4_reference_22 : decode cX4_reference 22 = .ok (.getfield 19, 3) := by decide +kernel
theorem dX4_reference_25 : decode cX4_reference 25 = .ok (.getfield 70, 3) := by decide +kernel
theorem dX4_reference_28 : decode cX4_reference 28 = .ok (.getfield 74, 3) := by decide +kernel
theorem dX4_reference_31 : decode cX4_reference 31 = .ok (.ifCond .ne 6, 3) := by decide +kernel
theorem dX4_reference_34 : decode cX4_reference 34 = .ok (.bipush (-3), 2) := by decide +kernel
theorem dX4_reference_36 : decode cX4_reference 36 = .ok (.ireturn, 1) := by decide +kernel
theorem dX4_reference_37 : decode cX4_reference 37 = .ok (.iconst 2, 1) := by decide +kernel
theorem dX4_reference_38 : decode cX4_reference 38 = .ok (.aload_n 0, 1) := by decide +kernel
theorem dX4_reference_39 : decode cX4_reference 39 = .ok (.getfield 19, 3) := by decide +kernel
theorem dX4_reference_42 : decode cX4_reference 42 = .ok (.getfield 70, 3) := by decide +kernel
theorem dX4_reference_45 : decode cX4_reference 45 = .ok (.getfield 98, 3) := by decide +kernel
theorem dX4_reference_48 : decode cX4_reference 48 = .ok (.iload_n 1, 1) := by decide +kernel
theorem dX4_reference_49 : decode cX4_reference 49 = .ok (.laload, 1) := by decide +kernel
theorem dX4_reference_50 : decode cX4_reference 50 = .ok (.invokestatic 102, 3) := by decide +kernel
theorem dX4_reference_53 : decode cX4_reference 53 = .ok (.imul, 1) := by decide +kernel
theorem dX4_reference_54 : decode cX4_reference 54 = .ok (.aload_n 0, 1) := by decide +kernel
theorem dX4_reference_55 : decode cX4_reference 55 = .ok (.getfield 19, 3) := by decide +kernel
theorem dX4_reference_58 : decode cX4_reference 58 = .ok (.getfield 70, 3) := by decide +kernel
theorem dX4_reference_61 : decode cX4_reference 61 = .ok (.getfield 108, 3) := by decide +kernel
theorem dX4_reference_64 : decode cX4_reference 64 = .ok (.iload_n 1, 1) := by decide +kernel
theorem dX4_reference_65 : decode cX4_reference 65 = .ok (.baload, 1) := by decide +kernel
theorem dX4_reference_66 : decode cX4_reference 66 = .ok (.ifCond .eq 7, 3) := by decide +kernel
theorem dX4_reference_69 : decode cX4_reference 69 = .ok (.iconst 1, 1) := by decide +kernel
theorem dX4_reference_70 : decode cX4_reference 70 = .ok (.goto 4, 3) := by decide +kernel
theorem dX4_reference_73 : decode cX4_reference 73 = .ok (.iconst 0, 1) := by decide +kernel
theorem dX4_reference_74 : decode cX4_reference 74 = .ok (.iadd, 1) := by decide +kernel
theorem dX4_reference_75 : decode cX4_reference 75 = .ok (.ireturn, 1) := by decide +kernel
theorem dX4_means_0 : decode cX4_means 0 = .ok (.iload_n 1, 1) := by decide +kernel
theorem dX4_means_1 : decode cX4_means 1 = .ok (.invokestatic 95, 3) := by decide +kernel
theorem dX4_means_4 : decode cX4_means 4 = .ok (.ifCond .eq 14, 3) := by decide +kernel
theorem dX4_means_7 : decode cX4_means 7 = .ok (.aload_n 0, 1) := by decide +kernel
theorem dX4_means_8 : decode cX4_means 8 = .ok (.getfield 10, 3) := by decide +kernel
theorem dX4_means_11 : decode cX4_means 11 = .ok (.iload_n 2, 1) := by decide +kernel
theorem dX4_means_12 : decode cX4_means 12 = .ok (.invokevirtual 51, 3) := by decide +kernel
theorem dX4_means_15 : decode cX4_means 15 = .ok (.ifCond .ne 6, 3) := by decide +kernel
theorem dX4_means_18 : decode cX4_means 18 = .ok (.bipush (-2), 2) := by decide +kernel
theorem dX4_means_20 : decode cX4_means 20 = .ok (.ireturn, 1) := by decide +kernel
theorem dX4_means_21 : decode cX4_means 21 = .ok (.aload_n 0, 1) := by decide +kernel
theorem dX4_means_22 : decode cX4_means 22 = .ok (.getfield 19, 3) := by decide +kernel
theorem dX4_means_25 : decode cX4_means 25 = .ok (.aload_n 0, 1) := by decide +kernel
theorem dX4_means_26 : decode cX4_means 26 = .ok (.getfield 10, 3) := by decide +kernel
theorem dX4_means_29 : decode cX4_means 29 = .ok (.invokevirtual 59, 3) := by decide +kernel
theorem dX4_means_32 : decode cX4_means 32 = .ok (.aload_n 0, 1) := by decide +kernel
theorem dX4_means_33 : decode cX4_means 33 = .ok (.getfield 19, 3) := by decide +kernel
theorem dX4_means_36 : decode cX4_means 36 = .ok (.getfield 70, 3) := by decide +kernel
theorem dX4_means_39 : decode cX4_means 39 = .ok (.getfield 74, 3) := by decide +kernel
theorem dX4_means_42 : decode cX4_means 42 = .ok (.ifCond .ne 6, 3) := by decide +kernel
theorem dX4_means_45 : decode cX4_means 45 = .ok (.bipush (-3), 2) := by decide +kernel
theorem dX4_means_47 : decode cX4_means 47 = .ok (.ireturn, 1) := by decide +kernel
theorem dX4_means_48 : decode cX4_means 48 = .ok (.aload_n 0, 1) := by decide +kernel
theorem dX4_means_49 : decode cX4_means 49 = .ok (.getfield 19, 3) := by decide +kernel
theorem dX4_means_52 : decode cX4_means 52 = .ok (.getfield 70, 3) := by decide +kernel
theorem dX4_means_55 : decode cX4_means 55 = .ok (.getfield 98, 3) := by decide +kernel
theorem dX4_means_58 : decode cX4_means 58 = .ok (.iload_n 1, 1) := by decide +kernel
theorem dX4_means_59 : decode cX4_means 59 = .ok (.laload, 1) := by decide +kernel
theorem dX4_means_60 : decode cX4_means 60 = .ok (.iload_n 2, 1) := by decide +kernel
theorem dX4_means_61 : decode cX4_means 61 = .ok (.invokestatic 111, 3) := by decide +kernel
theorem dX4_means_64 : decode cX4_means 64 = .ok (.ifCond .eq 7, 3) := by decide +kernel
theorem dX4_means_67 : decode cX4_means 67 = .ok (.iconst 1, 1) := by decide +kernel
theorem dX4_means_68 : decode cX4_means 68 = .ok (.goto 4, 3) := by decide +kernel
theorem dX4_means_71 : decode cX4_means 71 = .ok (.iconst 0, 1) := by decide +kernel
theorem dX4_means_72 : decode cX4_means 72 = .ok (.ireturn, 1) := by decide +kernel
theorem dX4_array_0 : decode cX4_array 0 = .ok (.aload_n 0, 1) := by decide +kernel
theorem dX4_array_1 : decode cX4_array 1 = .ok (.getfield 10, 3) := by decide +kernel
theorem dX4_array_4 : decode cX4_array 4 = .ok (.iload_n 1, 1) := by decide +kernel
theorem dX4_array_5 : decode cX4_array 5 = .ok (.invokevirtual 51, 3) := by decide +kernel
theorem dX4_array_8 : decode cX4_array 8 = .ok (.ifCond .eq 12, 3) := by decide +kernel
theorem dX4_array_11 : decode cX4_array 11 = .ok (.iload_n 2, 1) := by decide +kernel
theorem dX4_array_12 : decode cX4_array 12 = .ok (.ifCond .lt 8, 3) := by decide +kernel
theorem dX4_array_15 : decode cX4_array 15 = .ok (.iload_n 2, 1) := by decide +kernel
theorem dX4_array_16 : decode cX4_array 16 = .ok (.iconst 4, 1) := by decide +kernel
theorem dX4_array_17 : decode cX4_array 17 = .ok (.if_icmp .le 6, 3) := by decide +kernel
theorem dX4_array_20 : decode cX4_array 20 = .ok (.bipush (-2), 2) := by decide +kernel
theorem dX4_array_22 : decode cX4_array 22 = .ok (.ireturn, 1) := by decide +kernel
theorem dX4_array_23 : decode cX4_array 23 = .ok (.aload_n 0, 1) := by decide +kernel
theorem dX4_array_24 : decode cX4_array 24 = .ok (.getfield 19, 3) := by decide +kernel
theorem dX4_array_27 : decode cX4_array 27 = .ok (.aload_n 0, 1) := by decide +kernel
theorem dX4_array_28 : decode cX4_array 28 = .ok (.getfield 10, 3) := by decide +kernel
theorem dX4_array_31 : decode cX4_array 31 = .ok (.invokevirtual 59, 3) := by decide +kernel
theorem dX4_array_34 : decode cX4_array 34 = .ok (.aload_n 0, 1) := by decide +kernel
theorem dX4_array_35 : decode cX4_array 35 = .ok (.getfield 19, 3) := by decide +kernel
theorem dX4_array_38 : decode cX4_array 38 = .ok (.getfield 70, 3) := by decide +kernel
theorem dX4_array_41 : decode cX4_array 41 = .ok (.getfield 74, 3) := by decide +kernel
theorem dX4_array_44 : decode cX4_array 44 = .ok (.ifCond .ne 6, 3) := by decide +kernel
theorem dX4_array_47 : decode cX4_array 47 = .ok (.bipush (-3), 2) := by decide +kernel
theorem dX4_array_49 : decode cX4_array 49 = .ok (.ireturn, 1) := by decide +kernel
theorem dX4_array_50 : decode cX4_array 50 = .ok (.aload_n 0, 1) := by decide +kernel
theorem dX4_array_51 : decode cX4_array 51 = .ok (.getfield 19, 3) := by decide +kernel
theorem dX4_array_54 : decode cX4_array 54 = .ok (.getfield 70, 3) := by decide +kernel
theorem dX4_array_57 : decode cX4_array 57 = .ok (.astore_n 3, 1) := by decide +kernel
theorem dX4_array_58 : decode cX4_array 58 = .ok (.aload_n 3, 1) := by decide +kernel
theorem dX4_array_59 : decode cX4_array 59 = .ok (.getfield 115, 3) := by decide +kernel
theorem dX4_array_62 : decode cX4_array 62 = .ok (.iload_n 1, 1) := by decide +kernel
theorem dX4_array_63 : decode cX4_array 63 = .ok (.baload, 1) := by decide +kernel
theorem dX4_array_64 : decode cX4_array 64 = .ok (.ifCond .ne 5, 3) := by decide +kernel
theorem dX4_array_67 : decode cX4_array 67 = .ok (.iconst (-1), 1) := by decide +kernel
theorem dX4_array_68 : decode cX4_array 68 = .ok (.ireturn, 1) := by decide +kernel
theorem dX4_array_69 : decode cX4_array 69 = .ok (.iload_n 2, 1) := by decide +kernel
theorem dX4_array_70 : decode cX4_array 70 = .ok (.tableswitch 57 0 3 #[30, 37, 44, 51], 30) := by decide +kernel
theorem dX4_array_100 : decode cX4_array 100 = .ok (.aload_n 3, 1) := by decide +kernel
theorem dX4_array_101 : decode cX4_array 101 = .ok (.getfield 118, 3) := by decide +kernel
theorem dX4_array_104 : decode cX4_array 104 = .ok (.iload_n 1, 1) := by decide +kernel
theorem dX4_array_105 : decode cX4_array 105 = .ok (.iaload, 1) := by decide +kernel
theorem dX4_array_106 : decode cX4_array 106 = .ok (.ireturn, 1) := by decide +kernel
theorem dX4_array_107 : decode cX4_array 107 = .ok (.aload_n 3, 1) := by decide +kernel
theorem dX4_array_108 : decode cX4_array 108 = .ok (.getfield 121, 3) := by decide +kernel
theorem dX4_array_111 : decode cX4_array 111 = .ok (.iload_n 1, 1) := by decide +kernel
theorem dX4_array_112 : decode cX4_array 112 = .ok (.iaload, 1) := by decide +kernel
theorem dX4_array_113 : decode cX4_array 113 = .ok (.ireturn, 1) := by decide +kernel
theorem dX4_array_114 : decode cX4_array 114 = .ok (.aload_n 3, 1) := by decide +kernel
theorem dX4_array_115 : decode cX4_array 115 = .ok (.getfield 124, 3) := by decide +kernel
theorem dX4_array_118 : decode cX4_array 118 = .ok (.iload_n 1, 1) := by decide +kernel
theorem dX4_array_119 : decode cX4_array 119 = .ok (.iaload, 1) := by decide +kernel
theorem dX4_array_120 : decode cX4_array 120 = .ok (.ireturn, 1) := by decide +kernel
theorem dX4_array_121 : decode cX4_array 121 = .ok (.aload_n 3, 1) := by decide +kernel
theorem dX4_array_122 : decode cX4_array 122 = .ok (.iload_n 1, 1) := by decide +kernel
theorem dX4_array_123 : decode cX4_array 123 = .ok (.invokevirtual 127, 3) := by decide +kernel
theorem dX4_array_126 : decode cX4_array 126 = .ok (.ireturn, 1) := by decide +kernel
theorem dX4_array_127 : decode cX4_array 127 = .ok (.aload_n 3, 1) := by decide +kernel
theorem dX4_array_128 : decode cX4_array 128 = .ok (.iload_n 1, 1) := by decide +kernel
theorem dX4_array_129 : decode cX4_array 129 = .ok (.invokevirtual 130, 3) := by decide +kernel
theorem dX4_array_132 : decode cX4_array 132 = .ok (.ifCond .eq 7, 3) := by decide +kernel
theorem dX4_array_135 : decode cX4_array 135 = .ok (.iconst 1, 1) := by decide +kernel
theorem dX4_array_136 : decode cX4_array 136 = .ok (.goto 4, 3) := by decide +kernel
theorem dX4_array_139 : decode cX4_array 139 = .ok (.iconst 0, 1) := by decide +kernel
theorem dX4_array_140 : decode cX4_array 140 = .ok (.ireturn, 1) := by decide +kernel
theorem dX4_segment_0 : decode cX4_segment 0 = .ok (.aload_n 0, 1) := by decide +kernel
theorem dX4_segment_1 : decode cX4_segment 1 = .ok (.getfield 10, 3) := by decide +kernel
theorem dX4_segment_4 : decode cX4_segment 4 = .ok (.iload_n 1, 1) := by decide +kernel
theorem dX4_segment_5 : decode cX4_segment 5 = .ok (.invokevirtual 51, 3) := by decide +kernel
theorem dX4_segment_8 : decode cX4_segment 8 = .ok (.ifCond .eq 16, 3) := by decide +kernel
theorem dX4_segment_11 : decode cX4_segment 11 = .ok (.iload_n 2, 1) := by decide +kernel
theorem dX4_segment_12 : decode cX4_segment 12 = .ok (.ifCond .lt 12, 3) := by decide +kernel
theorem dX4_segment_15 : decode cX4_segment 15 = .ok (.iload_n 3, 1) := by decide +kernel
theorem dX4_segment_16 : decode cX4_segment 16 = .ok (.ifCond .lt 8, 3) := by decide +kernel
theorem dX4_segment_19 : decode cX4_segment 19 = .ok (.iload_n 3, 1) := by decide +kernel
theorem dX4_segment_20 : decode cX4_segment 20 = .ok (.iconst 3, 1) := by decide +kernel
theorem dX4_segment_21 : decode cX4_segment 21 = .ok (.if_icmp .le 10, 3) := by decide +kernel
theorem dX4_segment_24 : decode cX4_segment 24 = .ok (.aload_n 0, 1) := by decide +kernel
theorem dX4_segment_25 : decode cX4_segment 25 = .ok (.bipush (-2), 2) := by decide +kernel
theorem dX4_segment_27 : decode cX4_segment 27 = .ok (.invokevirtual 82, 3) := by decide +kernel
theorem dX4_segment_30 : decode cX4_segment 30 = .ok (.ireturn, 1) := by decide +kernel
theorem dX4_segment_31 : decode cX4_segment 31 = .ok (.aload_n 0, 1) := by decide +kernel
theorem dX4_segment_32 : decode cX4_segment 32 = .ok (.getfield 19, 3) := by decide +kernel
theorem dX4_segment_35 : decode cX4_segment 35 = .ok (.aload_n 0, 1) := by decide +kernel
theorem dX4_segment_36 : decode cX4_segment 36 = .ok (.getfield 10, 3) := by decide +kernel
theorem dX4_segment_39 : decode cX4_segment 39 = .ok (.invokevirtual 59, 3) := by decide +kernel
theorem dX4_segment_42 : decode cX4_segment 42 = .ok (.aload_n 0, 1) := by decide +kernel
theorem dX4_segment_43 : decode cX4_segment 43 = .ok (.getfield 19, 3) := by decide +kernel
theorem dX4_segment_46 : decode cX4_segment 46 = .ok (.getfield 70, 3) := by decide +kernel
theorem dX4_segment_49 : decode cX4_segment 49 = .ok (.getfield 74, 3) := by decide +kernel
theorem dX4_segment_52 : decode cX4_segment 52 = .ok (.ifCond .ne 10, 3) := by decide +kernel
theorem dX4_segment_55 : decode cX4_segment 55 = .ok (.aload_n 0, 1) := by decide +kernel
theorem dX4_segment_56 : decode cX4_segment 56 = .ok (.bipush (-3), 2) := by decide +kernel
theorem dX4_segment_58 : decode cX4_segment 58 = .ok (.invokevirtual 82, 3) := by decide +kernel
theorem dX4_segment_61 : decode cX4_segment 61 = .ok (.ireturn, 1) := by decide +kernel
theorem dX4_segment_62 : decode cX4_segment 62 = .ok (.aload_n 0, 1) := by decide +kernel
theorem dX4_segment_63 : decode cX4_segment 63 = .ok (.getfield 19, 3) := by decide +kernel
theorem dX4_segment_66 : decode cX4_segment 66 = .ok (.getfield 70, 3) := by decide +kernel
theorem dX4_segment_69 : decode cX4_segment 69 = .ok (.astore 4, 2) := by decide +kernel
theorem dX4_segment_71 : decode cX4_segment 71 = .ok (.aload 4, 2) := by decide +kernel
theorem dX4_segment_73 : decode cX4_segment 73 = .ok (.getfield 115, 3) := by decide +kernel
theorem dX4_segment_76 : decode cX4_segment 76 = .ok (.iload_n 1, 1) := by decide +kernel
theorem dX4_segment_77 : decode cX4_segment 77 = .ok (.baload, 1) := by decide +kernel
theorem dX4_segment_78 : decode cX4_segment 78 = .ok (.ifCond .ne 9, 3) := by decide +kernel
theorem dX4_segment_81 : decode cX4_segment 81 = .ok (.aload_n 0, 1) := by decide +kernel
theorem dX4_segment_82 : decode cX4_segment 82 = .ok (.iconst (-1), 1) := by decide +kernel
theorem dX4_segment_83 : decode cX4_segment 83 = .ok (.invokevirtual 82, 3) := by decide +kernel
theorem dX4_segment_86 : decode cX4_segment 86 = .ok (.ireturn, 1) := by decide +kernel
theorem dX4_segment_87 : decode cX4_segment 87 = .ok (.aload 4, 2) := by decide +kernel
theorem dX4_segment_89 : decode cX4_segment 89 = .ok (.iload_n 1, 1) := by decide +kernel
theorem dX4_segment_90 : decode cX4_segment 90 = .ok (.iload_n 2, 1) := by decide +kernel
theorem dX4_segment_91 : decode cX4_segment 91 = .ok (.invokevirtual 133, 3) := by decide +kernel
theorem dX4_segment_94 : decode cX4_segment 94 = .ok (.istore 5, 2) := by decide +kernel
theorem dX4_segment_96 : decode cX4_segment 96 = .ok (.iload 5, 2) := by decide +kernel
theorem dX4_segment_98 : decode cX4_segment 98 = .ok (.ifCond .ge 10, 3) := by decide +kernel
theorem dX4_segment_101 : decode cX4_segment 101 = .ok (.aload_n 0, 1) := by decide +kernel
theorem dX4_segment_102 : decode cX4_segment 102 = .ok (.bipush (-2), 2) := by decide +kernel
theorem dX4_segment_104 : decode cX4_segment 104 = .ok (.invokevirtual 82, 3) := by decide +kernel
theorem dX4_segment_107 : decode cX4_segment 107 = .ok (.ireturn, 1) := by decide +kernel
theorem dX4_segment_108 : decode cX4_segment 108 = .ok (.iload_n 3, 1) := by decide +kernel
theorem dX4_segment_109 : decode cX4_segment 109 = .ok (.tableswitch 65 0 2 #[27, 34, 47], 27) := by decide +kernel
theorem dX4_segment_136 : decode cX4_segment 136 = .ok (.aload_n 0, 1) := by decide +kernel
theorem dX4_segment_137 : decode cX4_segment 137 = .ok (.iload 5, 2) := by decide +kernel
theorem dX4_segment_139 : decode cX4_segment 139 = .ok (.invokevirtual 92, 3) := by decide +kernel
theorem dX4_segment_142 : decode cX4_segment 142 = .ok (.ireturn, 1) := by decide +kernel
theorem dX4_segment_143 : decode cX4_segment 143 = .ok (.aload_n 0, 1) := by decide +kernel
theorem dX4_segment_144 : decode cX4_segment 144 = .ok (.aload 4, 2) := by decide +kernel
theorem dX4_segment_146 : decode cX4_segment 146 = .ok (.iload_n 1, 1) := by decide +kernel
theorem dX4_segment_147 : decode cX4_segment 147 = .ok (.iload 5, 2) := by decide +kernel
theorem dX4_segment_149 : decode cX4_segment 149 = .ok (.invokevirtual 137, 3) := by decide +kernel
theorem dX4_segment_152 : decode cX4_segment 152 = .ok (.invokevirtual 92, 3) := by decide +kernel
theorem dX4_segment_155 : decode cX4_segment 155 = .ok (.ireturn, 1) := by decide +kernel
theorem dX4_segment_156 : decode cX4_segment 156 = .ok (.aload_n 0, 1) := by decide +kernel
theorem dX4_segment_157 : decode cX4_segment 157 = .ok (.aload 4, 2) := by decide +kernel
theorem dX4_segment_159 : decode cX4_segment 159 = .ok (.getfield 140, 3) := by decide +kernel
theorem dX4_segment_162 : decode cX4_segment 162 = .ok (.iload_n 1, 1) := by decide +kernel
theorem dX4_segment_163 : decode cX4_segment 163 = .ok (.bipush 12, 2) := by decide +kernel
theorem dX4_segment_165 : decode cX4_segment 165 = .ok (.imul, 1) := by decide +kernel
theorem dX4_segment_166 : decode cX4_segment 166 = .ok (.iload 5, 2) := by decide +kernel
theorem dX4_segment_168 : decode cX4_segment 168 = .ok (.iadd, 1) := by decide +kernel
theorem dX4_segment_169 : decode cX4_segment 169 = .ok (.iaload, 1) := by decide +kernel
theorem dX4_segment_170 : decode cX4_segment 170 = .ok (.invokevirtual 92, 3) := by decide +kernel
theorem dX4_segment_173 : decode cX4_segment 173 = .ok (.ireturn, 1) := by decide +kernel
theorem dX4_segment_174 : decode cX4_segment 174 = .ok (.aload_n 0, 1) := by decide +kernel
theorem dX4_segment_175 : decode cX4_segment 175 = .ok (.aload 4, 2) := by decide +kernel
theorem dX4_segment_177 : decode cX4_segment 177 = .ok (.getfield 143, 3) := by decide +kernel
theorem dX4_segment_180 : decode cX4_segment 180 = .ok (.iload_n 1, 1) := by decide +kernel
theorem dX4_segment_181 : decode cX4_segment 181 = .ok (.bipush 12, 2) := by decide +kernel
theorem dX4_segment_183 : decode cX4_segment 183 = .ok (.imul, 1) := by decide +kernel
theorem dX4_segment_184 : decode cX4_segment 184 = .ok (.iload 5, 2) := by decide +kernel
theorem dX4_segment_186 : decode cX4_segment 186 = .ok (.iadd, 1) := by decide +kernel
theorem dX4_segment_187 : decode cX4_segment 187 = .ok (.iaload, 1) := by decide +kernel
theorem dX4_segment_188 : decode cX4_segment 188 = .ok (.invokevirtual 92, 3) := by decide +kernel
theorem dX4_segment_191 : decode cX4_segment 191 = .ok (.ireturn, 1) := by decide +kernel
theorem dX4_status_0 : decode cX4_status 0 = .ok (.aload_n 0, 1) := by decide +kernel
theorem dX4_status_1 : decode cX4_status 1 = .ok (.getfield 30, 3) := by decide +kernel
theorem dX4_status_4 : decode cX4_status 4 = .ok (.ireturn, 1) := by decide +kernel
theorem dX4_run_0 : decode cX4_run 0 = .ok (.aload_n 0, 1) := by decide +kernel
theorem dX4_run_1 : decode cX4_run 1 = .ok (.getfield 26, 3) := by decide +kernel
theorem dX4_run_4 : decode cX4_run 4 = .ok (.aload_n 0, 1) := by decide +kernel
theorem dX4_run_5 : decode cX4_run 5 = .ok (.getfield 10, 3) := by decide +kernel
theorem dX4_run_8 : decode cX4_run 8 = .ok (.lload_n 1, 1) := by decide +kernel
theorem dX4_run_9 : decode cX4_run 9 = .ok (.invokevirtual 146, 3) := by decide +kernel
theorem dX4_run_12 : decode cX4_run 12 = .ok (.aload_n 0, 1) := by decide +kernel
theorem dX4_run_13 : decode cX4_run 13 = .ok (.getfield 26, 3) := by decide +kernel
theorem dX4_run_16 : decode cX4_run 16 = .ok (.getfield 150, 3) := by decide +kernel
theorem dX4_run_19 : decode cX4_run 19 = .ok (.ireturn, 1) := by decide +kernel
theorem dX4_where_0 : decode cX4_where 0 = .ok (.aload_n 0, 1) := by decide +kernel
theorem dX4_where_1 : decode cX4_where 1 = .ok (.getfield 26, 3) := by decide +kernel
theorem dX4_where_4 : decode cX4_where 4 = .ok (.getfield 153, 3) := by decide +kernel
theorem dX4_where_7 : decode cX4_where 7 = .ok (.ireturn, 1) := by decide +kernel
theorem dX4_value_0 : decode cX4_value 0 = .ok (.iload_n 1, 1) := by decide +kernel
theorem dX4_value_1 : decode cX4_value 1 = .ok (.invokestatic 79, 3) := by decide +kernel
theorem dX4_value_4 : decode cX4_value 4 = .ok (.ifCond .eq 15, 3) := by decide +kernel
theorem dX4_value_7 : decode cX4_value 7 = .ok (.aload_n 0, 1) := by decide +kernel
theorem dX4_value_8 : decode cX4_value 8 = .ok (.getfield 26, 3) := by decide +kernel
theorem dX4_value_11 : decode cX4_value 11 = .ok (.getfield 156, 3) := by decide +kernel
theorem dX4_value_14 : decode cX4_value 14 = .ok (.iload_n 1, 1) := by decide +kernel
theorem dX4_value_15 : decode cX4_value 15 = .ok (.iaload, 1) := by decide +kernel
theorem dX4_value_16 : decode cX4_value 16 = .ok (.goto 4, 3) := by decide +kernel
theorem dX4_value_19 : decode cX4_value 19 = .ok (.iconst 0, 1) := by decide +kernel
theorem dX4_value_20 : decode cX4_value 20 = .ok (.ireturn, 1) := by decide +kernel
theorem dX4_place_0 : decode cX4_place 0 = .ok (.iload_n 1, 1) := by decide +kernel
theorem dX4_place_1 : decode cX4_place 1 = .ok (.invokestatic 95, 3) := by decide +kernel
theorem dX4_place_4 : decode cX4_place 4 = .ok (.ifCond .ne 5, 3) := by decide +kernel
theorem dX4_place_7 : decode cX4_place 7 = .ok (.iconst 0, 1) := by decide +kernel
theorem dX4_place_8 : decode cX4_place 8 = .ok (.ireturn, 1) := by decide +kernel
theorem dX4_place_9 : decode cX4_place 9 = .ok (.aload_n 0, 1) := by decide +kernel
theorem dX4_place_10 : decode cX4_place 10 = .ok (.getfield 26, 3) := by decide +kernel
theorem dX4_place_13 : decode cX4_place 13 = .ok (.getfield 159, 3) := by decide +kernel
theorem dX4_place_16 : decode cX4_place 16 = .ok (.iload_n 1, 1) := by decide +kernel
theorem dX4_place_17 : decode cX4_place 17 = .ok (.iaload, 1) := by decide +kernel
theorem dX4_place_18 : decode cX4_place 18 = .ok (.istore_n 3, 1) := by decide +kernel
theorem dX4_place_19 : decode cX4_place 19 = .ok (.iload_n 3, 1) := by decide +kernel
theorem dX4_place_20 : decode cX4_place 20 = .ok (.ifCond .lt 20, 3) := by decide +kernel
theorem dX4_place_23 : decode cX4_place 23 = .ok (.iload_n 2, 1) := by decide +kernel
theorem dX4_place_24 : decode cX4_place 24 = .ok (.ifCond .lt 16, 3) := by decide +kernel
theorem dX4_place_27 : decode cX4_place 27 = .ok (.iload_n 2, 1) := by decide +kernel
theorem dX4_place_28 : decode cX4_place 28 = .ok (.aload_n 0, 1) := by decide +kernel
theorem dX4_place_29 : decode cX4_place 29 = .ok (.getfield 26, 3) := by decide +kernel
theorem dX4_place_32 : decode cX4_place 32 = .ok (.getfield 162, 3) := by decide +kernel
theorem dX4_place_35 : decode cX4_place 35 = .ok (.iload_n 3, 1) := by decide +kernel
theorem dX4_place_36 : decode cX4_place 36 = .ok (.iaload, 1) := by decide +kernel
theorem dX4_place_37 : decode cX4_place 37 = .ok (.if_icmp .lt 5, 3) := by decide +kernel
theorem dX4_place_40 : decode cX4_place 40 = .ok (.iconst 0, 1) := by decide +kernel
theorem dX4_place_41 : decode cX4_place 41 = .ok (.ireturn, 1) := by decide +kernel
theorem dX4_place_42 : decode cX4_place 42 = .ok (.aload_n 0, 1) := by decide +kernel
theorem dX4_place_43 : decode cX4_place 43 = .ok (.getfield 26, 3) := by decide +kernel
theorem dX4_place_46 : decode cX4_place 46 = .ok (.getfield 165, 3) := by decide +kernel
theorem dX4_place_49 : decode cX4_place 49 = .ok (.iload_n 3, 1) := by decide +kernel
theorem dX4_place_50 : decode cX4_place 50 = .ok (.bipush 12, 2) := by decide +kernel
theorem dX4_place_52 : decode cX4_place 52 = .ok (.imul, 1) := by decide +kernel
theorem dX4_place_53 : decode cX4_place 53 = .ok (.iload_n 2, 1) := by decide +kernel
theorem dX4_place_54 : decode cX4_place 54 = .ok (.iadd, 1) := by decide +kernel
theorem dX4_place_55 : decode cX4_place 55 = .ok (.iaload, 1) := by decide +kernel
theorem dX4_place_56 : decode cX4_place 56 = .ok (.ireturn, 1) := by decide +kernel
theorem dX4_length_0 : decode cX4_length 0 = .ok (.iload_n 1, 1) := by decide +kernel
theorem dX4_length_1 : decode cX4_length 1 = .ok (.invokestatic 95, 3) := by decide +kernel
theorem dX4_length_4 : decode cX4_length 4 = .ok (.ifCond .ne 6, 3) := by decide +kernel
theorem dX4_length_7 : decode cX4_length 7 = .ok (.bipush (-2), 2) := by decide +kernel
theorem dX4_length_9 : decode cX4_length 9 = .ok (.ireturn, 1) := by decide +kernel
theorem dX4_length_10 : decode cX4_length 10 = .ok (.aload_n 0, 1) := by decide +kernel
theorem dX4_length_11 : decode cX4_length 11 = .ok (.getfield 26, 3) := by decide +kernel
theorem dX4_length_14 : decode cX4_length 14 = .ok (.getfield 159, 3) := by decide +kernel
theorem dX4_length_17 : decode cX4_length 17 = .ok (.iload_n 1, 1) := by decide +kernel
theorem dX4_length_18 : decode cX4_length 18 = .ok (.iaload, 1) := by decide +kernel
theorem dX4_length_19 : decode cX4_length 19 = .ok (.istore_n 2, 1) := by decide +kernel
theorem dX4_length_20 : decode cX4_length 20 = .ok (.iload_n 2, 1) := by decide +kernel
theorem dX4_length_21 : decode cX4_length 21 = .ok (.ifCond .ge 7, 3) := by decide +kernel
theorem dX4_length_24 : decode cX4_length 24 = .ok (.iconst (-1), 1) := by decide +kernel
theorem dX4_length_25 : decode cX4_length 25 = .ok (.goto 12, 3) := by decide +kernel
theorem dX4_length_28 : decode cX4_length 28 = .ok (.aload_n 0, 1) := by decide +kernel
theorem dX4_length_29 : decode cX4_length 29 = .ok (.getfield 26, 3) := by decide +kernel
theorem dX4_length_32 : decode cX4_length 32 = .ok (.getfield 162, 3) := by decide +kernel
theorem dX4_length_35 : decode cX4_length 35 = .ok (.iload_n 2, 1) := by decide +kernel
theorem dX4_length_36 : decode cX4_length 36 = .ok (.iaload, 1) := by decide +kernel
theorem dX4_length_37 : decode cX4_length 37 = .ok (.ireturn, 1) := by decide +kernel
theorem dX4_same_0 : decode cX4_same 0 = .ok (.iload_n 1, 1) := by decide +kernel
theorem dX4_same_1 : decode cX4_same 1 = .ok (.invokestatic 95, 3) := by decide +kernel
theorem dX4_same_4 : decode cX4_same 4 = .ok (.ifCond .eq 10, 3) := by decide +kernel
theorem dX4_same_7 : decode cX4_same 7 = .ok (.iload_n 2, 1) := by decide +kernel
theorem dX4_same_8 : decode cX4_same 8 = .ok (.invokestatic 95, 3) := by decide +kernel
theorem dX4_same_11 : decode cX4_same 11 = .ok (.ifCond .ne 6, 3) := by decide +kernel
theorem dX4_same_14 : decode cX4_same 14 = .ok (.bipush (-2), 2) := by decide +kernel
theorem dX4_same_16 : decode cX4_same 16 = .ok (.ireturn, 1) := by decide +kernel
theorem dX4_same_17 : decode cX4_same 17 = .ok (.aload_n 0, 1) := by decide +kernel
theorem dX4_same_18 : decode cX4_same 18 = .ok (.getfield 26, 3) := by decide +kernel
theorem dX4_same_21 : decode cX4_same 21 = .ok (.getfield 168, 3) := by decide +kernel
theorem dX4_same_24 : decode cX4_same 24 = .ok (.ifCond .ne 6, 3) := by decide +kernel
theorem dX4_same_27 : decode cX4_same 27 = .ok (.bipush (-3), 2) := by decide +kernel
theorem dX4_same_29 : decode cX4_same 29 = .ok (.ireturn, 1) := by decide +kernel
theorem dX4_same_30 : decode cX4_same 30 = .ok (.aload_n 0, 1) := by decide +kernel
theorem dX4_same_31 : decode cX4_same 31 = .ok (.getfield 26, 3) := by decide +kernel
theorem dX4_same_34 : decode cX4_same 34 = .ok (.getfield 159, 3) := by decide +kernel
theorem dX4_same_37 : decode cX4_same 37 = .ok (.iload_n 1, 1) := by decide +kernel
theorem dX4_same_38 : decode cX4_same 38 = .ok (.iaload, 1) := by decide +kernel
theorem dX4_same_39 : decode cX4_same 39 = .ok (.aload_n 0, 1) := by decide +kernel
theorem dX4_same_40 : decode cX4_same 40 = .ok (.getfield 26, 3) := by decide +kernel
theorem dX4_same_43 : decode cX4_same 43 = .ok (.getfield 159, 3) := by decide +kernel
theorem dX4_same_46 : decode cX4_same 46 = .ok (.iload_n 2, 1) := by decide +kernel
theorem dX4_same_47 : decode cX4_same 47 = .ok (.iaload, 1) := by decide +kernel
theorem dX4_same_48 : decode cX4_same 48 = .ok (.if_icmp .ne 7, 3) := by decide +kernel
theorem dX4_same_51 : decode cX4_same 51 = .ok (.iconst 1, 1) := by decide +kernel
theorem dX4_same_52 : decode cX4_same 52 = .ok (.goto 4, 3) := by decide +kernel
theorem dX4_same_55 : decode cX4_same 55 = .ok (.iconst 0, 1) := by decide +kernel
theorem dX4_same_56 : decode cX4_same 56 = .ok (.ireturn, 1) := by decide +kernel
theorem dX4_holds_0 : decode cX4_holds 0 = .ok (.aload_n 0, 1) := by decide +kernel
theorem dX4_holds_1 : decode cX4_holds 1 = .ok (.getfield 19, 3) := by decide +kernel
theorem dX4_holds_4 : decode cX4_holds 4 = .ok (.aload_n 0, 1) := by decide +kernel
theorem dX4_holds_5 : decode cX4_holds 5 = .ok (.getfield 10, 3) := by decide +kernel
theorem dX4_holds_8 : decode cX4_holds 8 = .ok (.invokevirtual 59, 3) := by decide +kernel
theorem dX4_holds_11 : decode cX4_holds 11 = .ok (.aload_n 0, 1) := by decide +kernel
theorem dX4_holds_12 : decode cX4_holds 12 = .ok (.getfield 26, 3) := by decide +kernel
theorem dX4_holds_15 : decode cX4_holds 15 = .ok (.aload_n 0, 1) := by decide +kernel
theorem dX4_holds_16 : decode cX4_holds 16 = .ok (.getfield 10, 3) := by decide +kernel
theorem dX4_holds_19 : decode cX4_holds 19 = .ok (.lload_n 1, 1) := by decide +kernel
theorem dX4_holds_20 : decode cX4_holds 20 = .ok (.invokevirtual 146, 3) := by decide +kernel
theorem dX4_holds_23 : decode cX4_holds 23 = .ok (.aload_n 0, 1) := by decide +kernel
theorem dX4_holds_24 : decode cX4_holds 24 = .ok (.getfield 26, 3) := by decide +kernel
theorem dX4_holds_27 : decode cX4_holds 27 = .ok (.getfield 150, 3) := by decide +kernel
theorem dX4_holds_30 : decode cX4_holds 30 = .ok (.ifCond .ne 10, 3) := by decide +kernel
theorem dX4_holds_33 : decode cX4_holds 33 = .ok (.aload_n 0, 1) := by decide +kernel
theorem dX4_holds_34 : decode cX4_holds 34 = .ok (.invokevirtual 171, 3) := by decide +kernel
theorem dX4_holds_37 : decode cX4_holds 37 = .ok (.goto 7, 3) := by decide +kernel
theorem dX4_holds_40 : decode cX4_holds 40 = .ok (.aload_n 0, 1) := by decide +kernel
theorem dX4_holds_41 : decode cX4_holds 41 = .ok (.invokevirtual 175, 3) := by decide +kernel
theorem dX4_holds_44 : decode cX4_holds 44 = .ok (.istore_n 3, 1) := by decide +kernel
theorem dX4_holds_45 : decode cX4_holds 45 = .ok (.iload_n 3, 1) := by decide +kernel
theorem dX4_holds_46 : decode cX4_holds 46 = .ok (.ifCond .eq 7, 3) := by decide +kernel
theorem dX4_holds_49 : decode cX4_holds 49 = .ok (.iconst 1, 1) := by decide +kernel
theorem dX4_holds_50 : decode cX4_holds 50 = .ok (.goto 4, 3) := by decide +kernel
theorem dX4_holds_53 : decode cX4_holds 53 = .ok (.iconst 0, 1) := by decide +kernel
theorem dX4_holds_54 : decode cX4_holds 54 = .ok (.ireturn, 1) := by decide +kernel
theorem dX4_told_0 : decode cX4_told 0 = .ok (.iload_n 1, 1) := by decide +kernel
theorem dX4_told_1 : decode cX4_told 1 = .ok (.ifCond .lt 8, 3) := by decide +kernel
theorem dX4_told_4 : decode cX4_told 4 = .ok (.iload_n 1, 1) := by decide +kernel
theorem dX4_told_5 : decode cX4_told 5 = .ok (.iconst 4, 1) := by decide +kernel
theorem dX4_told_6 : decode cX4_told 6 = .ok (.if_icmp .le 6, 3) := by decide +kernel
theorem dX4_told_9 : decode cX4_told 9 = .ok (.bipush (-2), 2) := by decide +kernel
theorem dX4_told_11 : decode cX4_told 11 = .ok (.ireturn, 1) := by decide +kernel
theorem dX4_told_12 : decode cX4_told 12 = .ok (.aload_n 0, 1) := by decide +kernel
theorem dX4_told_13 : decode cX4_told 13 = .ok (.getfield 19, 3) := by decide +kernel
theorem dX4_told_16 : decode cX4_told 16 = .ok (.aload_n 0, 1) := by decide +kernel
theorem dX4_told_17 : decode cX4_told 17 = .ok (.getfield 10, 3) := by decide +kernel
theorem dX4_told_20 : decode cX4_told 20 = .ok (.invokevirtual 59, 3) := by decide +kernel
theorem dX4_told_23 : decode cX4_told 23 = .ok (.iload_n 1, 1) := by decide +kernel
theorem dX4_told_24 : decode cX4_told 24 = .ok (.tableswitch 64 0 3 #[32, 40, 48, 56], 32) := by decide +kernel
theorem dX4_told_56 : decode cX4_told 56 = .ok (.aload_n 0, 1) := by decide +kernel
theorem dX4_told_57 : decode cX4_told 57 = .ok (.getfield 10, 3) := by decide +kernel
theorem dX4_told_60 : decode cX4_told 60 = .ok (.getfield 34, 3) := by decide +kernel
theorem dX4_told_63 : decode cX4_told 63 = .ok (.ireturn, 1) := by decide +kernel
theorem dX4_told_64 : decode cX4_told 64 = .ok (.aload_n 0, 1) := by decide +kernel
theorem dX4_told_65 : decode cX4_told 65 = .ok (.getfield 10, 3) := by decide +kernel
theorem dX4_told_68 : decode cX4_told 68 = .ok (.invokevirtual 178, 3) := by decide +kernel
theorem dX4_told_71 : decode cX4_told 71 = .ok (.ireturn, 1) := by decide +kernel
theorem dX4_told_72 : decode cX4_told 72 = .ok (.aload_n 0, 1) := by decide +kernel
theorem dX4_told_73 : decode cX4_told 73 = .ok (.getfield 19, 3) := by decide +kernel
theorem dX4_told_76 : decode cX4_told 76 = .ok (.invokevirtual 182, 3) := by decide +kernel
theorem dX4_told_79 : decode cX4_told 79 = .ok (.ireturn, 1) := by decide +kernel
theorem dX4_told_80 : decode cX4_told 80 = .ok (.aload_n 0, 1) := by decide +kernel
theorem dX4_told_81 : decode cX4_told 81 = .ok (.getfield 19, 3) := by decide +kernel
theorem dX4_told_84 : decode cX4_told 84 = .ok (.invokevirtual 185, 3) := by decide +kernel
theorem dX4_told_87 : decode cX4_told 87 = .ok (.ireturn, 1) := by decide +kernel
theorem dX4_told_88 : decode cX4_told 88 = .ok (.aload_n 0, 1) := by decide +kernel
theorem dX4_told_89 : decode cX4_told 89 = .ok (.getfield 19, 3) := by decide +kernel
theorem dX4_told_92 : decode cX4_told 92 = .ok (.getfield 70, 3) := by decide +kernel
theorem dX4_told_95 : decode cX4_told 95 = .ok (.getfield 74, 3) := by decide +kernel
theorem dX4_told_98 : decode cX4_told 98 = .ok (.ifCond .eq 16, 3) := by decide +kernel
theorem dX4_told_101 : decode cX4_told 101 = .ok (.aload_n 0, 1) := by decide +kernel
theorem dX4_told_102 : decode cX4_told 102 = .ok (.getfield 19, 3) := by decide +kernel
theorem dX4_told_105 : decode cX4_told 105 = .ok (.getfield 70, 3) := by decide +kernel
theorem dX4_told_108 : decode cX4_told 108 = .ok (.invokevirtual 188, 3) := by decide +kernel
theorem dX4_told_111 : decode cX4_told 111 = .ok (.goto 4, 3) := by decide +kernel
theorem dX4_told_114 : decode cX4_told 114 = .ok (.iconst 0, 1) := by decide +kernel
theorem dX4_told_115 : decode cX4_told 115 = .ok (.ireturn, 1) := by decide +kernel
theorem dX4_programChanged_0 : decode cX4_programChanged 0 = .ok (.aload_n 0, 1) := by decide +kernel
theorem dX4_programChanged_1 : decode cX4_programChanged 1 = .ok (.getfield 19, 3) := by decide +kernel
theorem dX4_programChanged_4 : decode cX4_programChanged 4 = .ok (.iconst 1, 1) := by decide +kernel
theorem dX4_programChanged_5 : decode cX4_programChanged 5 = .ok (.putfield 191, 3) := by decide +kernel
theorem dX4_programChanged_8 : decode cX4_programChanged 8 = .ok (.aload_n 0, 1) := by decide +kernel
theorem dX4_programChanged_9 : decode cX4_programChanged 9 = .ok (.getfield 26, 3) := by decide +kernel
theorem dX4_programChanged_12 : decode cX4_programChanged 12 = .ok (.invokevirtual 194, 3) := by decide +kernel
theorem dX4_programChanged_15 : decode cX4_programChanged 15 = .ok (.return_, 1) := by decide +kernel
theorem dX4_refuse_0 : decode cX4_refuse 0 = .ok (.aload_n 0, 1) := by decide +kernel
theorem dX4_refuse_1 : decode cX4_refuse 1 = .ok (.iload_n 1, 1) := by decide +kernel
theorem dX4_refuse_2 : decode cX4_refuse 2 = .ok (.putfield 30, 3) := by decide +kernel
theorem dX4_refuse_5 : decode cX4_refuse 5 = .ok (.iload_n 1, 1) := by decide +kernel
theorem dX4_refuse_6 : decode cX4_refuse 6 = .ok (.ireturn, 1) := by decide +kernel
theorem dX4_tell_0 : decode cX4_tell 0 = .ok (.aload_n 0, 1) := by decide +kernel
theorem dX4_tell_1 : decode cX4_tell 1 = .ok (.iconst 0, 1) := by decide +kernel
theorem dX4_tell_2 : decode cX4_tell 2 = .ok (.putfield 30, 3) := by decide +kernel
theorem dX4_tell_5 : decode cX4_tell 5 = .ok (.iload_n 1, 1) := by decide +kernel
theorem dX4_tell_6 : decode cX4_tell 6 = .ok (.ireturn, 1) := by decide +kernel
theorem dX4_endHolds_0 : decode cX4_endHolds 0 = .ok (.aload_n 0, 1) := by decide +kernel
theorem dX4_endHolds_1 : decode cX4_endHolds 1 = .ok (.getfield 19, 3) := by decide +kernel
theorem dX4_endHolds_4 : decode cX4_endHolds 4 = .ok (.getfield 70, 3) := by decide +kernel
theorem dX4_endHolds_7 : decode cX4_endHolds 7 = .ok (.getfield 74, 3) := by decide +kernel
theorem dX4_endHolds_10 : decode cX4_endHolds 10 = .ok (.ifCond .ne 5, 3) := by decide +kernel
theorem dX4_endHolds_13 : decode cX4_endHolds 13 = .ok (.iconst 0, 1) := by decide +kernel
theorem dX4_endHolds_14 : decode cX4_endHolds 14 = .ok (.ireturn, 1) := by decide +kernel
theorem dX4_endHolds_15 : decode cX4_endHolds 15 = .ok (.iconst 0, 1) := by decide +kernel
theorem dX4_endHolds_16 : decode cX4_endHolds 16 = .ok (.istore_n 1, 1) := by decide +kernel
theorem dX4_endHolds_17 : decode cX4_endHolds 17 = .ok (.iload_n 1, 1) := by decide +kernel
theorem dX4_endHolds_18 : decode cX4_endHolds 18 = .ok (.bipush 6, 2) := by decide +kernel
theorem dX4_endHolds_20 : decode cX4_endHolds 20 = .ok (.if_icmp .ge 59, 3) := by decide +kernel
theorem dX4_endHolds_23 : decode cX4_endHolds 23 = .ok (.aload_n 0, 1) := by decide +kernel
theorem dX4_endHolds_24 : decode cX4_endHolds 24 = .ok (.getfield 26, 3) := by decide +kernel
theorem dX4_endHolds_27 : decode cX4_endHolds 27 = .ok (.getfield 156, 3) := by decide +kernel
theorem dX4_endHolds_30 : decode cX4_endHolds 30 = .ok (.iload_n 1, 1) := by decide +kernel
theorem dX4_endHolds_31 : decode cX4_endHolds 31 = .ok (.iaload, 1) := by decide +kernel
theorem dX4_endHolds_32 : decode cX4_endHolds 32 = .ok (.aload_n 0, 1) := by decide +kernel
theorem dX4_endHolds_33 : decode cX4_endHolds 33 = .ok (.getfield 19, 3) := by decide +kernel
theorem dX4_endHolds_36 : decode cX4_endHolds 36 = .ok (.getfield 70, 3) := by decide +kernel
theorem dX4_endHolds_39 : decode cX4_endHolds 39 = .ok (.getfield 86, 3) := by decide +kernel
theorem dX4_endHolds_42 : decode cX4_endHolds 42 = .ok (.iload_n 1, 1) := by decide +kernel
theorem dX4_endHolds_43 : decode cX4_endHolds 43 = .ok (.iaload, 1) := by decide +kernel
theorem dX4_endHolds_44 : decode cX4_endHolds 44 = .ok (.if_icmp .lt 27, 3) := by decide +kernel
theorem dX4_endHolds_47 : decode cX4_endHolds 47 = .ok (.aload_n 0, 1) := by decide +kernel
theorem dX4_endHolds_48 : decode cX4_endHolds 48 = .ok (.getfield 26, 3) := by decide +kernel
theorem dX4_endHolds_51 : decode cX4_endHolds 51 = .ok (.getfield 156, 3) := by decide +kernel
theorem dX4_endHolds_54 : decode cX4_endHolds 54 = .ok (.iload_n 1, 1) := by decide +kernel
theorem dX4_endHolds_55 : decode cX4_endHolds 55 = .ok (.iaload, 1) := by decide +kernel
theorem dX4_endHolds_56 : decode cX4_endHolds 56 = .ok (.aload_n 0, 1) := by decide +kernel
theorem dX4_endHolds_57 : decode cX4_endHolds 57 = .ok (.getfield 19, 3) := by decide +kernel
theorem dX4_endHolds_60 : decode cX4_endHolds 60 = .ok (.getfield 70, 3) := by decide +kernel
theorem dX4_endHolds_63 : decode cX4_endHolds 63 = .ok (.getfield 89, 3) := by decide +kernel
theorem dX4_endHolds_66 : decode cX4_endHolds 66 = .ok (.iload_n 1, 1) := by decide +kernel
theorem dX4_endHolds_67 : decode cX4_endHolds 67 = .ok (.iaload, 1) := by decide +kernel
theorem dX4_endHolds_68 : decode cX4_endHolds 68 = .ok (.if_icmp .le 5, 3) := by decide +kernel
theorem dX4_endHolds_71 : decode cX4_endHolds 71 = .ok (.iconst 0, 1) := by decide +kernel
theorem dX4_endHolds_72 : decode cX4_endHolds 72 = .ok (.ireturn, 1) := by decide +kernel
theorem dX4_endHolds_73 : decode cX4_endHolds 73 = .ok (.iinc 1 1, 3) := by decide +kernel
theorem dX4_endHolds_76 : decode cX4_endHolds 76 = .ok (.goto (-59), 3) := by decide +kernel
theorem dX4_endHolds_79 : decode cX4_endHolds 79 = .ok (.iconst 0, 1) := by decide +kernel
theorem dX4_endHolds_80 : decode cX4_endHolds 80 = .ok (.istore_n 1, 1) := by decide +kernel
theorem dX4_endHolds_81 : decode cX4_endHolds 81 = .ok (.iload_n 1, 1) := by decide +kernel
theorem dX4_endHolds_82 : decode cX4_endHolds 82 = .ok (.bipush 6, 2) := by decide +kernel
theorem dX4_endHolds_84 : decode cX4_endHolds 84 = .ok (.if_icmp .ge 19, 3) := by decide +kernel
theorem dX4_endHolds_87 : decode cX4_endHolds 87 = .ok (.aload_n 0, 1) := by decide +kernel
theorem dX4_endHolds_88 : decode cX4_endHolds 88 = .ok (.iload_n 1, 1) := by decide +kernel
theorem dX4_endHolds_89 : decode cX4_endHolds 89 = .ok (.invokevirtual 197, 3) := by decide +kernel
theorem dX4_endHolds_92 : decode cX4_endHolds 92 = .ok (.ifCond .ne 5, 3) := by decide +kernel
theorem dX4_endHolds_95 : decode cX4_endHolds 95 = .ok (.iconst 0, 1) := by decide +kernel
theorem dX4_endHolds_96 : decode cX4_endHolds 96 = .ok (.ireturn, 1) := by decide +kernel
theorem dX4_endHolds_97 : decode cX4_endHolds 97 = .ok (.iinc 1 1, 3) := by decide +kernel
theorem dX4_endHolds_100 : decode cX4_endHolds 100 = .ok (.goto (-19), 3) := by decide +kernel
theorem dX4_endHolds_103 : decode cX4_endHolds 103 = .ok (.iconst 1, 1) := by decide +kernel
theorem dX4_endHolds_104 : decode cX4_endHolds 104 = .ok (.ireturn, 1) := by decide +kernel
theorem dX4_referenceHolds_0 : decode cX4_referenceHolds 0 = .ok (.aload_n 0, 1) := by decide +kernel
theorem dX4_referenceHolds_1 : decode cX4_referenceHolds 1 = .ok (.getfield 26, 3) := by decide +kernel
theorem dX4_referenceHolds_4 : decode cX4_referenceHolds 4 = .ok (.getfield 159, 3) := by decide +kernel
theorem dX4_referenceHolds_7 : decode cX4_referenceHolds 7 = .ok (.iload_n 1, 1) := by decide +kernel
theorem dX4_referenceHolds_8 : decode cX4_referenceHolds 8 = .ok (.iaload, 1) := by decide +kernel
theorem dX4_referenceHolds_9 : decode cX4_referenceHolds 9 = .ok (.istore_n 2, 1) := by decide +kernel
theorem dX4_referenceHolds_10 : decode cX4_referenceHolds 10 = .ok (.iload_n 2, 1) := by decide +kernel
theorem dX4_referenceHolds_11 : decode cX4_referenceHolds 11 = .ok (.ifCond .ge 16, 3) := by decide +kernel
theorem dX4_referenceHolds_14 : decode cX4_referenceHolds 14 = .ok (.aload_n 0, 1) := by decide +kernel
theorem dX4_referenceHolds_15 : decode cX4_referenceHolds 15 = .ok (.getfield 19, 3) := by decide +kernel
theorem dX4_referenceHolds_18 : decode cX4_referenceHolds 18 = .ok (.getfield 70, 3) := by decide +kernel
theorem dX4_referenceHolds_21 : decode cX4_referenceHolds 21 = .ok (.getfield 108, 3) := by decide +kernel
theorem dX4_referenceHolds_24 : decode cX4_referenceHolds 24 = .ok (.iload_n 1, 1) := by decide +kernel
theorem dX4_referenceHolds_25 : decode cX4_referenceHolds 25 = .ok (.baload, 1) := by decide +kernel
theorem dX4_referenceHolds_26 : decode cX4_referenceHolds 26 = .ok (.ireturn, 1) := by decide +kernel
theorem dX4_referenceHolds_27 : decode cX4_referenceHolds 27 = .ok (.aload_n 0, 1) := by decide +kernel
theorem dX4_referenceHolds_28 : decode cX4_referenceHolds 28 = .ok (.getfield 19, 3) := by decide +kernel
theorem dX4_referenceHolds_31 : decode cX4_referenceHolds 31 = .ok (.getfield 70, 3) := by decide +kernel
theorem dX4_referenceHolds_34 : decode cX4_referenceHolds 34 = .ok (.getfield 98, 3) := by decide +kernel
theorem dX4_referenceHolds_37 : decode cX4_referenceHolds 37 = .ok (.iload_n 1, 1) := by decide +kernel
theorem dX4_referenceHolds_38 : decode cX4_referenceHolds 38 = .ok (.laload, 1) := by decide +kernel
theorem dX4_referenceHolds_39 : decode cX4_referenceHolds 39 = .ok (.iload_n 2, 1) := by decide +kernel
theorem dX4_referenceHolds_40 : decode cX4_referenceHolds 40 = .ok (.invokestatic 111, 3) := by decide +kernel
theorem dX4_referenceHolds_43 : decode cX4_referenceHolds 43 = .ok (.ifCond .eq 30, 3) := by decide +kernel
theorem dX4_referenceHolds_46 : decode cX4_referenceHolds 46 = .ok (.aload_n 0, 1) := by decide +kernel
theorem dX4_referenceHolds_47 : decode cX4_referenceHolds 47 = .ok (.getfield 19, 3) := by decide +kernel
theorem dX4_referenceHolds_50 : decode cX4_referenceHolds 50 = .ok (.getfield 70, 3) := by decide +kernel
theorem dX4_referenceHolds_53 : decode cX4_referenceHolds 53 = .ok (.getfield 115, 3) := by decide +kernel
theorem dX4_referenceHolds_56 : decode cX4_referenceHolds 56 = .ok (.iload_n 2, 1) := by decide +kernel
theorem dX4_referenceHolds_57 : decode cX4_referenceHolds 57 = .ok (.baload, 1) := by decide +kernel
theorem dX4_referenceHolds_58 : decode cX4_referenceHolds 58 = .ok (.ifCond .eq 15, 3) := by decide +kernel
theorem dX4_referenceHolds_61 : decode cX4_referenceHolds 61 = .ok (.aload_n 0, 1) := by decide +kernel
theorem dX4_referenceHolds_62 : decode cX4_referenceHolds 62 = .ok (.iload_n 2, 1) := by decide +kernel
theorem dX4_referenceHolds_63 : decode cX4_referenceHolds 63 = .ok (.invokevirtual 200, 3) := by decide +kernel
theorem dX4_referenceHolds_66 : decode cX4_referenceHolds 66 = .ok (.ifCond .eq 7, 3) := by decide +kernel
theorem dX4_referenceHolds_69 : decode cX4_referenceHolds 69 = .ok (.iconst 1, 1) := by decide +kernel
theorem dX4_referenceHolds_70 : decode cX4_referenceHolds 70 = .ok (.goto 4, 3) := by decide +kernel
theorem dX4_referenceHolds_73 : decode cX4_referenceHolds 73 = .ok (.iconst 0, 1) := by decide +kernel
theorem dX4_referenceHolds_74 : decode cX4_referenceHolds 74 = .ok (.ireturn, 1) := by decide +kernel
theorem dX4_isVariable_0 : decode cX4_isVariable 0 = .ok (.iload_n 0, 1) := by decide +kernel
theorem dX4_isVariable_1 : decode cX4_isVariable 1 = .ok (.ifCond .lt 13, 3) := by decide +kernel
theorem dX4_isVariable_4 : decode cX4_isVariable 4 = .ok (.iload_n 0, 1) := by decide +kernel
theorem dX4_isVariable_5 : decode cX4_isVariable 5 = .ok (.bipush 6, 2) := by decide +kernel
theorem dX4_isVariable_7 : decode cX4_isVariable 7 = .ok (.if_icmp .ge 7, 3) := by decide +kernel
theorem dX4_isVariable_10 : decode cX4_isVariable 10 = .ok (.iconst 1, 1) := by decide +kernel
theorem dX4_isVariable_11 : decode cX4_isVariable 11 = .ok (.goto 4, 3) := by decide +kernel
theorem dX4_isVariable_14 : decode cX4_isVariable 14 = .ok (.iconst 0, 1) := by decide +kernel
theorem dX4_isVariable_15 : decode cX4_isVariable 15 = .ok (.ireturn, 1) := by decide +kernel
theorem dX4_isReference_0 : decode cX4_isReference 0 = .ok (.iload_n 0, 1) := by decide +kernel
theorem dX4_isReference_1 : decode cX4_isReference 1 = .ok (.ifCond .lt 13, 3) := by decide +kernel
theorem dX4_isReference_4 : decode cX4_isReference 4 = .ok (.iload_n 0, 1) := by decide +kernel
theorem dX4_isReference_5 : decode cX4_isReference 5 = .ok (.bipush 6, 2) := by decide +kernel
theorem dX4_isReference_7 : decode cX4_isReference 7 = .ok (.if_icmp .ge 7, 3) := by decide +kernel
theorem dX4_isReference_10 : decode cX4_isReference 10 = .ok (.iconst 1, 1) := by decide +kernel
theorem dX4_isReference_11 : decode cX4_isReference 11 = .ok (.goto 4, 3) := by decide +kernel
theorem dX4_isReference_14 : decode cX4_isReference 14 = .ok (.iconst 0, 1) := by decide +kernel
theorem dX4_isReference_15 : decode cX4_isReference 15 = .ok (.ireturn, 1) := by decide +kernel
theorem dX4_isLane_0 : decode cX4_isLane 0 = .ok (.iload_n 0, 1) := by decide +kernel
theorem dX4_isLane_1 : decode cX4_isLane 1 = .ok (.ifCond .lt 12, 3) := by decide +kernel
theorem dX4_isLane_4 : decode cX4_isLane 4 = .ok (.iload_n 0, 1) := by decide +kernel
theorem dX4_isLane_5 : decode cX4_isLane 5 = .ok (.iconst 3, 1) := by decide +kernel
theorem dX4_isLane_6 : decode cX4_isLane 6 = .ok (.if_icmp .ge 7, 3) := by decide +kernel
theorem dX4_isLane_9 : decode cX4_isLane 9 = .ok (.iconst 1, 1) := by decide +kernel
theorem dX4_isLane_10 : decode cX4_isLane 10 = .ok (.goto 4, 3) := by decide +kernel
theorem dX4_isLane_13 : decode cX4_isLane 13 = .ok (.iconst 0, 1) := by decide +kernel
theorem dX4_isLane_14 : decode cX4_isLane 14 = .ok (.ireturn, 1) := by decide +kernel
theorem dX4_isNumber_0 : decode cX4_isNumber 0 = .ok (.iload_n 0, 1) := by decide +kernel
theorem dX4_isNumber_1 : decode cX4_isNumber 1 = .ok (.ldc 204, 2) := by decide +kernel
theorem dX4_isNumber_3 : decode cX4_isNumber 3 = .ok (.if_icmp .lt 13, 3) := by decide +kernel
theorem dX4_isNumber_6 : decode cX4_isNumber 6 = .ok (.iload_n 0, 1) := by decide +kernel
theorem dX4_isNumber_7 : decode cX4_isNumber 7 = .ok (.ldc 205, 2) := by decide +kernel
theorem dX4_isNumber_9 : decode cX4_isNumber 9 = .ok (.if_icmp .gt 7, 3) := by decide +kernel
theorem dX4_isNumber_12 : decode cX4_isNumber 12 = .ok (.iconst 1, 1) := by decide +kernel
theorem dX4_isNumber_13 : decode cX4_isNumber 13 = .ok (.goto 4, 3) := by decide +kernel
theorem dX4_isNumber_16 : decode cX4_isNumber 16 = .ok (.iconst 0, 1) := by decide +kernel
theorem dX4_isNumber_17 : decode cX4_isNumber 17 = .ok (.ireturn, 1) := by decide +kernel
end
section
theorem dX5_init_0 : decode cX5_init 0 = .ok (.aload_n 0, 1) := by decide +kernel
theorem dX5_init_1 : decode cX5_init 1 = .ok (.invokespecial 1, 3) := by decide +kernel
theorem dX5_init_4 : decode cX5_init 4 = .ok (.aload_n 0, 1) := by decide +kernel
theorem dX5_init_5 : decode cX5_init 5 = .ok (.bipush 40, 2) := by decide +kernel
theorem dX5_init_7 : decode cX5_init 7 = .ok (.newarray .int, 2) := by decide +kernel
theorem dX5_init_9 : decode cX5_init 9 = .ok (.putfield 7, 3) := by decide +kernel
theorem dX5_init_12 : decode cX5_init 12 = .ok (.aload_n 0, 1) := by decide +kernel
theorem dX5_init_13 : decode cX5_init 13 = .ok (.bipush 40, 2) := by decide +kernel
theorem dX5_init_15 : decode cX5_init 15 = .ok (.newarray .int, 2) := by decide +kernel
theorem dX5_init_17 : decode cX5_init 17 = .ok (.putfield 13, 3) := by decide +kernel
theorem dX5_init_20 : decode cX5_init 20 = .ok (.aload_n 0, 1) := by decide +kernel
theorem dX5_init_21 : decode cX5_init 21 = .ok (.bipush 40, 2) := by decide +kernel
theorem dX5_init_23 : decode cX5_init 23 = .ok (.newarray .int, 2) := by decide +kernel
theorem dX5_init_25 : decode cX5_init 25 = .ok (.putfield 16, 3) := by decide +kernel
theorem dX5_init_28 : decode cX5_init 28 = .ok (.aload_n 0, 1) := by decide +kernel
theorem dX5_init_29 : decode cX5_init 29 = .ok (.bipush 40, 2) := by decide +kernel
theorem dX5_init_31 : decode cX5_init 31 = .ok (.newarray .int, 2) := by decide +kernel
theorem dX5_init_33 : decode cX5_init 33 = .ok (.putfield 19, 3) := by decide +kernel
theorem dX5_init_36 : decode cX5_init 36 = .ok (.aload_n 0, 1) := by decide +kernel
theorem dX5_init_37 : decode cX5_init 37 = .ok (.bipush 40, 2) := by decide +kernel
theorem dX5_init_39 : decode cX5_init 39 = .ok (.newarray .int, 2) := by decide +kernel
theorem dX5_init_41 : decode cX5_init 41 = .ok (.putfield 22, 3) := by decide +kernel
theorem dX5_init_44 : decode cX5_init 44 = .ok (.aload_n 0, 1) := by decide +kernel
theorem dX5_init_45 : decode cX5_init 45 = .ok (.bipush 40, 2) := by decide +kernel
theorem dX5_init_47 : decode cX5_init 47 = .ok (.newarray .int, 2) := by decide +kernel
theorem dX5_init_49 : decode cX5_init 49 = .ok (.putfield 25, 3) := by decide +kernel
theorem dX5_init_52 : decode cX5_init 52 = .ok (.aload_n 0, 1) := by decide +kernel
theorem dX5_init_53 : decode cX5_init 53 = .ok (.bipush 40, 2) := by decide +kernel
theorem dX5_init_55 : decode cX5_init 55 = .ok (.newarray .boolean, 2) := by decide +kernel
theorem dX5_init_57 : decode cX5_init 57 = .ok (.putfield 28, 3) := by decide +kernel
theorem dX5_init_60 : decode cX5_init 60 = .ok (.aload_n 0, 1) := by decide +kernel
theorem dX5_init_61 : decode cX5_init 61 = .ok (.iconst 2, 1) := by decide +kernel
theorem dX5_init_62 : decode cX5_init 62 = .ok (.newarray .boolean, 2) := by decide +kernel
theorem dX5_init_64 : decode cX5_init 64 = .ok (.putfield 32, 3) := by decide +kernel
theorem dX5_init_67 : decode cX5_init 67 = .ok (.aload_n 0, 1) := by decide +kernel
theorem dX5_init_68 : decode cX5_init 68 = .ok (.bipush 12, 2) := by decide +kernel
theorem dX5_init_70 : decode cX5_init 70 = .ok (.newarray .long, 2) := by decide +kernel
theorem dX5_init_72 : decode cX5_init 72 = .ok (.putfield 35, 3) := by decide +kernel
theorem dX5_init_75 : decode cX5_init 75 = .ok (.aload_n 0, 1) := by decide +kernel
theorem dX5_init_76 : decode cX5_init 76 = .ok (.bipush 12, 2) := by decide +kernel
theorem dX5_init_78 : decode cX5_init 78 = .ok (.newarray .long, 2) := by decide +kernel
theorem dX5_init_80 : decode cX5_init 80 = .ok (.putfield 39, 3) := by decide +kernel
theorem dX5_init_83 : decode cX5_init 83 = .ok (.aload_n 0, 1) := by decide +kernel
theorem dX5_init_84 : decode cX5_init 84 = .ok (.bipush 12, 2) := by decide +kernel
theorem dX5_init_86 : decode cX5_init 86 = .ok (.newarray .long, 2) := by decide +kernel
theorem dX5_init_88 : decode cX5_init 88 = .ok (.putfield 42, 3) := by decide +kernel
theorem dX5_init_91 : decode cX5_init 91 = .ok (.aload_n 0, 1) := by decide +kernel
theorem dX5_init_92 : decode cX5_init 92 = .ok (.bipush 12, 2) := by decide +kernel
theorem dX5_init_94 : decode cX5_init 94 = .ok (.newarray .boolean, 2) := by decide +kernel
theorem dX5_init_96 : decode cX5_init 96 = .ok (.putfield 45, 3) := by decide +kernel
theorem dX5_init_99 : decode cX5_init 99 = .ok (.aload_n 0, 1) := by decide +kernel
theorem dX5_init_100 : decode cX5_init 100 = .ok (.bipush 80, 2) := by decide +kernel
theorem dX5_init_102 : decode cX5_init 102 = .ok (.newarray .boolean, 2) := by decide +kernel
theorem dX5_init_104 : decode cX5_init 104 = .ok (.putfield 48, 3) := by decide +kernel
theorem dX5_init_107 : decode cX5_init 107 = .ok (.aload_n 0, 1) := by decide +kernel
theorem dX5_init_108 : decode cX5_init 108 = .ok (.bipush 80, 2) := by decide +kernel
theorem dX5_init_110 : decode cX5_init 110 = .ok (.newarray .int, 2) := by decide +kernel
theorem dX5_init_112 : decode cX5_init 112 = .ok (.putfield 51, 3) := by decide +kernel
theorem dX5_init_115 : decode cX5_init 115 = .ok (.aload_n 0, 1) := by decide +kernel
theorem dX5_init_116 : decode cX5_init 116 = .ok (.bipush 80, 2) := by decide +kernel
theorem dX5_init_118 : decode cX5_init 118 = .ok (.newarray .long, 2) := by decide +kernel
theorem dX5_init_120 : decode cX5_init 120 = .ok (.putfield 54, 3) := by decide +kernel
theorem dX5_init_123 : decode cX5_init 123 = .ok (.aload_n 0, 1) := by decide +kernel
theorem dX5_init_124 : decode cX5_init 124 = .ok (.bipush 80, 2) := by decide +kernel
theorem dX5_init_126 : decode cX5_init 126 = .ok (.newarray .long, 2) := by decide +kernel
theorem dX5_init_128 : decode cX5_init 128 = .ok (.putfield 57, 3) := by decide +kernel
theorem dX5_init_131 : decode cX5_init 131 = .ok (.aload_n 0, 1) := by decide +kernel
theorem dX5_init_132 : decode cX5_init 132 = .ok (.sipush 960, 3) := by decide +kernel
theorem dX5_init_135 : decode cX5_init 135 = .ok (.newarray .long, 2) := by decide +kernel
theorem dX5_init_137 : decode cX5_init 137 = .ok (.putfield 60, 3) := by decide +kernel
theorem dX5_init_140 : decode cX5_init 140 = .ok (.aload_n 0, 1) := by decide +kernel
theorem dX5_init_141 : decode cX5_init 141 = .ok (.sipush 960, 3) := by decide +kernel
theorem dX5_init_144 : decode cX5_init 144 = .ok (.newarray .long, 2) := by decide +kernel
theorem dX5_init_146 : decode cX5_init 146 = .ok (.putfield 63, 3) := by decide +kernel
theorem dX5_init_149 : decode cX5_init 149 = .ok (.aload_n 0, 1) := by decide +kernel
theorem dX5_init_150 : decode cX5_init 150 = .ok (.bipush 40, 2) := by decide +kernel
theorem dX5_init_152 : decode cX5_init 152 = .ok (.newarray .boolean, 2) := by decide +kernel
theorem dX5_init_154 : decode cX5_init 154 = .ok (.putfield 66, 3) := by decide +kernel
theorem dX5_init_157 : decode cX5_init 157 = .ok (.aload_n 0, 1) := by decide +kernel
theorem dX5_init_158 : decode cX5_init 158 = .ok (.bipush 40, 2) := by decide +kernel
theorem dX5_init_160 : decode cX5_init 160 = .ok (.newarray .int, 2) := by decide +kernel
theorem dX5_init_162 : decode cX5_init 162 = .ok (.putfield 69, 3) := by decide +kernel
theorem dX5_init_165 : decode cX5_init 165 = .ok (.aload_n 0, 1) := by decide +kernel
theorem dX5_init_166 : decode cX5_init 166 = .ok (.bipush 6, 2) := by decide +kernel
theorem dX5_init_168 : decode cX5_init 168 = .ok (.newarray .int, 2) := by decide +kernel
theorem dX5_init_170 : decode cX5_init 170 = .ok (.putfield 72, 3) := by decide +kernel
theorem dX5_init_173 : decode cX5_init 173 = .ok (.aload_n 0, 1) := by decide +kernel
theorem dX5_init_174 : decode cX5_init 174 = .ok (.bipush 6, 2) := by decide +kernel
theorem dX5_init_176 : decode cX5_init 176 = .ok (.newarray .int, 2) := by decide +kernel
theorem dX5_init_178 : decode cX5_init 178 = .ok (.putfield 75, 3) := by decide +kernel
theorem dX5_init_181 : decode cX5_init 181 = .ok (.aload_n 0, 1) := by decide +kernel
theorem dX5_init_182 : decode cX5_init 182 = .ok (.bipush 40, 2) := by decide +kernel
theorem dX5_init_184 : decode cX5_init 184 = .ok (.newarray .int, 2) := by decide +kernel
theorem dX5_init_186 : decode cX5_init 186 = .ok (.putfield 78, 3) := by decide +kernel
theorem dX5_init_189 : decode cX5_init 189 = .ok (.aload_n 0, 1) := by decide +kernel
theorem dX5_init_190 : decode cX5_init 190 = .ok (.bipush 40, 2) := by decide +kernel
theorem dX5_init_192 : decode cX5_init 192 = .ok (.newarray .int, 2) := by decide +kernel
theorem dX5_init_194 : decode cX5_init 194 = .ok (.putfield 81, 3) := by decide +kernel
theorem dX5_init_197 : decode cX5_init 197 = .ok (.aload_n 0, 1) := by decide +kernel
theorem dX5_init_198 : decode cX5_init 198 = .ok (.sipush 480, 3) := by decide +kernel
theorem dX5_init_201 : decode cX5_init 201 = .ok (.newarray .int, 2) := by decide +kernel
theorem dX5_init_203 : decode cX5_init 203 = .ok (.putfield 84, 3) := by decide +kernel
theorem dX5_init_206 : decode cX5_init 206 = .ok (.aload_n 0, 1) := by decide +kernel
theorem dX5_init_207 : decode cX5_init 207 = .ok (.bipush 12, 2) := by decide +kernel
theorem dX5_init_209 : decode cX5_init 209 = .ok (.newarray .int, 2) := by decide +kernel
theorem dX5_init_211 : decode cX5_init 211 = .ok (.putfield 87, 3) := by decide +kernel
theorem dX5_init_214 : decode cX5_init 214 = .ok (.aload_n 0, 1) := by decide +kernel
theorem dX5_init_215 : decode cX5_init 215 = .ok (.bipush 12, 2) := by decide +kernel
theorem dX5_init_217 : decode cX5_init 217 = .ok (.newarray .long, 2) := by decide +kernel
theorem dX5_init_219 : decode cX5_init 219 = .ok (.putfield 90, 3) := by decide +kernel
theorem dX5_init_222 : decode cX5_init 222 = .ok (.aload_n 0, 1) := by decide +kernel
theorem dX5_init_223 : decode cX5_init 223 = .ok (.bipush 12, 2) := by decide +kernel
theorem dX5_init_225 : decode cX5_init 225 = .ok (.newarray .long, 2) := by decide +kernel
theorem dX5_init_227 : decode cX5_init 227 = .ok (.putfield 93, 3) := by decide +kernel
theorem dX5_init_230 : decode cX5_init 230 = .ok (.aload_n 0, 1) := by decide +kernel
theorem dX5_init_231 : decode cX5_init 231 = .ok (.invokevirtual 96, 3) := by decide +kernel
theorem dX5_init_234 : decode cX5_init 234 = .ok (.return_, 1) := by decide +kernel
theorem dX5_forget_0 : decode cX5_forget 0 = .ok (.aload_n 0, 1) := by decide +kernel
theorem dX5_forget_1 : decode cX5_forget 1 = .ok (.iconst 0, 1) := by decide +kernel
theorem dX5_forget_2 : decode cX5_forget 2 = .ok (.putfield 99, 3) := by decide +kernel
theorem dX5_forget_5 : decode cX5_forget 5 = .ok (.aload_n 0, 1) := by decide +kernel
theorem dX5_forget_6 : decode cX5_forget 6 = .ok (.iconst 0, 1) := by decide +kernel
theorem dX5_forget_7 : decode cX5_forget 7 = .ok (.putfield 103, 3) := by decide +kernel
theorem dX5_forget_10 : decode cX5_forget 10 = .ok (.aload_n 0, 1) := by decide +kernel
theorem dX5_forget_11 : decode cX5_forget 11 = .ok (.iconst (-1), 1) := by decide +kernel
theorem dX5_forget_12 : decode cX5_forget 12 = .ok (.putfield 107, 3) := by decide +kernel
theorem dX5_forget_15 : decode cX5_forget 15 = .ok (.iconst 0, 1) := by decide +kernel
theorem dX5_forget_16 : decode cX5_forget 16 = .ok (.istore_n 1, 1) := by decide +kernel
theorem dX5_forget_17 : decode cX5_forget 17 = .ok (.iload_n 1, 1) := by decide +kernel
theorem dX5_forget_18 : decode cX5_forget 18 = .ok (.bipush 6, 2) := by decide +kernel
theorem dX5_forget_20 : decode cX5_forget 20 = .ok (.if_icmp .ge 23, 3) := by decide +kernel
theorem dX5_forget_23 : decode cX5_forget 23 = .ok (.aload_n 0, 1) := by decide +kernel
theorem dX5_forget_24 : decode cX5_forget 24 = .ok (.getfield 72, 3) := by decide +kernel
theorem dX5_forget_27 : decode cX5_forget 27 = .ok (.iload_n 1, 1) := by decide +kernel
theorem dX5_forget_28 : decode cX5_forget 28 = .ok (.iconst 0, 1) := by decide +kernel
theorem dX5_forget_29 : decode cX5_forget 29 = .ok (.iastore, 1) := by decide +kernel
theorem dX5_forget_30 : decode cX5_forget 30 = .ok (.aload_n 0, 1) := by decide +kernel
theorem dX5_forget_31 : decode cX5_forget 31 = .ok (.getfield 75, 3) := by decide +kernel
theorem dX5_forget_34 : decode cX5_forget 34 = .ok (.iload_n 1, 1) := by decide +kernel
theorem dX5_forget_35 : decode cX5_forget 35 = .ok (.iconst (-1), 1) := by decide +kernel
theorem dX5_forget_36 : decode cX5_forget 36 = .ok (.iastore, 1) := by decide +kernel
theorem dX5_forget_37 : decode cX5_forget 37 = .ok (.iinc 1 1, 3) := by decide +kernel
theorem dX5_forget_40 : decode cX5_forget 40 = .ok (.goto (-23), 3) := by decide +kernel
theorem dX5_forget_43 : decode cX5_forget 43 = .ok (.return_, 1) := by decide +kernel
theorem dX5_clear_0 : decode cX5_clear 0 = .ok (.aload_n 0, 1) := by decide +kernel
theorem dX5_clear_1 : decode cX5_clear 1 = .ok (.getfield 110, 3) := by decide +kernel
theorem dX5_clear_4 : decode cX5_clear 4 = .ok (.istore_n 1, 1) := by decide +kernel
theorem dX5_clear_5 : decode cX5_clear 5 = .ok (.aload_n 0, 1) := by decide +kernel
theorem dX5_clear_6 : decode cX5_clear 6 = .ok (.iconst 0, 1) := by decide +kernel
theorem dX5_clear_7 : decode cX5_clear 7 = .ok (.putfield 110, 3) := by decide +kernel
theorem dX5_clear_10 : decode cX5_clear 10 = .ok (.aload_n 0, 1) := by decide +kernel
theorem dX5_clear_11 : decode cX5_clear 11 = .ok (.invokevirtual 96, 3) := by decide +kernel
theorem dX5_clear_14 : decode cX5_clear 14 = .ok (.iload_n 1, 1) := by decide +kernel
theorem dX5_clear_15 : decode cX5_clear 15 = .ok (.ireturn, 1) := by decide +kernel
theorem dX5_isName_0 : decode cX5_isName 0 = .ok (.iload_n 0, 1) := by decide +kernel
theorem dX5_isName_1 : decode cX5_isName 1 = .ok (.ifCond .lt 13, 3) := by decide +kernel
theorem dX5_isName_4 : decode cX5_isName 4 = .ok (.iload_n 0, 1) := by decide +kernel
theorem dX5_isName_5 : decode cX5_isName 5 = .ok (.bipush 6, 2) := by decide +kernel
theorem dX5_isName_7 : decode cX5_isName 7 = .ok (.if_icmp .ge 7, 3) := by decide +kernel
theorem dX5_isName_10 : decode cX5_isName 10 = .ok (.iconst 1, 1) := by decide +kernel
theorem dX5_isName_11 : decode cX5_isName 11 = .ok (.goto 4, 3) := by decide +kernel
theorem dX5_isName_14 : decode cX5_isName 14 = .ok (.iconst 0, 1) := by decide +kernel
theorem dX5_isName_15 : decode cX5_isName 15 = .ok (.ireturn, 1) := by decide +kernel
theorem dX5_isLane_0 : decode cX5_isLane 0 = .ok (.iload_n 0, 1) := by decide +kernel
theorem dX5_isLane_1 : decode cX5_isLane 1 = .ok (.ifCond .lt 12, 3) := by decide +kernel
theorem dX5_isLane_4 : decode cX5_isLane 4 = .ok (.iload_n 0, 1) := by decide +kernel
theorem dX5_isLane_5 : decode cX5_isLane 5 = .ok (.iconst 3, 1) := by decide +kernel
theorem dX5_isLane_6 : decode cX5_isLane 6 = .ok (.if_icmp .ge 7, 3) := by decide +kernel
theorem dX5_isLane_9 : decode cX5_isLane 9 = .ok (.iconst 1, 1) := by decide +kernel
theorem dX5_isLane_10 : decode cX5_isLane 10 = .ok (.goto 4, 3) := by decide +kernel
theorem dX5_isLane_13 : decode cX5_isLane 13 = .ok (.iconst 0, 1) := by decide +kernel
theorem dX5_isLane_14 : decode cX5_isLane 14 = .ok (.ireturn, 1) := by decide +kernel
theorem dX5_isNumber_0 : decode cX5_isNumber 0 = .ok (.iload_n 0, 1) := by decide +kernel
theorem dX5_isNumber_1 : decode cX5_isNumber 1 = .ok (.ldc 113, 2) := by decide +kernel
theorem dX5_isNumber_3 : decode cX5_isNumber 3 = .ok (.if_icmp .lt 13, 3) := by decide +kernel
theorem dX5_isNumber_6 : decode cX5_isNumber 6 = .ok (.iload_n 0, 1) := by decide +kernel
theorem dX5_isNumber_7 : decode cX5_isNumber 7 = .ok (.ldc 114, 2) := by decide +kernel
theorem dX5_isNumber_9 : decode cX5_isNumber 9 = .ok (.if_icmp .gt 7, 3) := by decide +kernel
theorem dX5_isNumber_12 : decode cX5_isNumber 12 = .ok (.iconst 1, 1) := by decide +kernel
theorem dX5_isNumber_13 : decode cX5_isNumber 13 = .ok (.goto 4, 3) := by decide +kernel
theorem dX5_isNumber_16 : decode cX5_isNumber 16 = .ok (.iconst 0, 1) := by decide +kernel
theorem dX5_isNumber_17 : decode cX5_isNumber 17 = .ok (.ireturn, 1) := by decide +kernel
theorem dX5_isAct_0 : decode cX5_isAct 0 = .ok (.iload_n 0, 1) := by decide +kernel
theorem dX5_isAct_1 : decode cX5_isAct 1 = .ok (.tableswitch 379 0 14 #[75, 95, 127, 127, 154, 181, 186, 127, 186, 206, 241, 276, 319, 186, 362], 75) := by decide +kernel
theorem dX5_isAct_76 : decode cX5_isAct 76 = .ok (.iload_n 1, 1) := by decide +kernel
theorem dX5_isAct_77 : decode cX5_isAct 77 = .ok (.invokestatic 115, 3) := by decide +kernel
theorem dX5_isAct_80 : decode cX5_isAct 80 = .ok (.ifCond .eq 14, 3) := by decide +kernel
theorem dX5_isAct_83 : decode cX5_isAct 83 = .ok (.iload_n 2, 1) := by decide +kernel
theorem dX5_isAct_84 : decode cX5_isAct 84 = .ok (.invokestatic 119, 3) := by decide +kernel
theorem dX5_isAct_87 : decode cX5_isAct 87 = .ok (.ifCond .eq 7, 3) := by decide +kernel
theorem dX5_isAct_90 : decode cX5_isAct 90 = .ok (.iconst 1, 1) := by decide +kernel
theorem dX5_isAct_91 : decode cX5_isAct 91 = .ok (.goto 4, 3) := by decide +kernel
theorem dX5_isAct_94 : decode cX5_isAct 94 = .ok (.iconst 0, 1) := by decide +kernel
theorem dX5_isAct_95 : decode cX5_isAct 95 = .ok (.ireturn, 1) := by decide +kernel
theorem dX5_isAct_96 : decode cX5_isAct 96 = .ok (.iload_n 1, 1) := by decide +kernel
theorem dX5_isAct_97 : decode cX5_isAct 97 = .ok (.invokestatic 115, 3) := by decide +kernel
theorem dX5_isAct_100 : decode cX5_isAct 100 = .ok (.ifCond .eq 26, 3) := by decide +kernel
theorem dX5_isAct_103 : decode cX5_isAct 103 = .ok (.iload_n 2, 1) := by decide +kernel
theorem dX5_isAct_104 : decode cX5_isAct 104 = .ok (.invokestatic 119, 3) := by decide +kernel
theorem dX5_isAct_107 : decode cX5_isAct 107 = .ok (.ifCond .eq 19, 3) := by decide +kernel
theorem dX5_isAct_110 : decode cX5_isAct 110 = .ok (.iload_n 3, 1) := by decide +kernel
theorem dX5_isAct_111 : decode cX5_isAct 111 = .ok (.invokestatic 119, 3) := by decide +kernel
theorem dX5_isAct_114 : decode cX5_isAct 114 = .ok (.ifCond .eq 12, 3) := by decide +kernel
theorem dX5_isAct_117 : decode cX5_isAct 117 = .ok (.iload_n 2, 1) := by decide +kernel
theorem dX5_isAct_118 : decode cX5_isAct 118 = .ok (.iload_n 3, 1) := by decide +kernel
theorem dX5_isAct_119 : decode cX5_isAct 119 = .ok (.if_icmp .gt 7, 3) := by decide +kernel
theorem dX5_isAct_122 : decode cX5_isAct 122 = .ok (.iconst 1, 1) := by decide +kernel
theorem dX5_isAct_123 : decode cX5_isAct 123 = .ok (.goto 4, 3) := by decide +kernel
theorem dX5_isAct_126 : decode cX5_isAct 126 = .ok (.iconst 0, 1) := by decide +kernel
theorem dX5_isAct_127 : decode cX5_isAct 127 = .ok (.ireturn, 1) := by decide +kernel
theorem dX5_isAct_128 : decode cX5_isAct 128 = .ok (.iload_n 1, 1) := by decide +kernel
theorem dX5_isAct_129 : decode cX5_isAct 129 = .ok (.invokestatic 115, 3) := by decide +kernel
theorem dX5_isAct_132 : decode cX5_isAct 132 = .ok (.ifCond .eq 21, 3) := by decide +kernel
theorem dX5_isAct_135 : decode cX5_isAct 135 = .ok (.iload_n 2, 1) := by decide +kernel
theorem dX5_isAct_136 : decode cX5_isAct 136 = .ok (.invokestatic 115, 3) := by decide +kernel
theorem dX5_isAct_139 : decode cX5_isAct 139 = .ok (.ifCond .eq 14, 3) := by decide +kernel
theorem dX5_isAct_142 : decode cX5_isAct 142 = .ok (.iload_n 3, 1) := by decide +kernel
theorem dX5_isAct_143 : decode cX5_isAct 143 = .ok (.invokestatic 115, 3) := by decide +kernel
theorem dX5_isAct_146 : decode cX5_isAct 146 = .ok (.ifCond .eq 7, 3) := by decide +kernel
theorem dX5_isAct_149 : decode cX5_isAct 149 = .ok (.iconst 1, 1) := by decide +kernel
theorem dX5_isAct_150 : decode cX5_isAct 150 = .ok (.goto 4, 3) := by decide +kernel
theorem dX5_isAct_153 : decode cX5_isAct 153 = .ok (.iconst 0, 1) := by decide +kernel
theorem dX5_isAct_154 : decode cX5_isAct 154 = .ok (.ireturn, 1) := by decide +kernel
theorem dX5_isAct_155 : decode cX5_isAct 155 = .ok (.iload_n 1, 1) := by decide +kernel
theorem dX5_isAct_156 : decode cX5_isAct 156 = .ok (.invokestatic 115, 3) := by decide +kernel
theorem dX5_isAct_159 : decode cX5_isAct 159 = .ok (.ifCond .eq 21, 3) := by decide +kernel
theorem dX5_isAct_162 : decode cX5_isAct 162 = .ok (.iload_n 2, 1) := by decide +kernel
theorem dX5_isAct_163 : decode cX5_isAct 163 = .ok (.invokestatic 122, 3) := by decide +kernel
theorem dX5_isAct_166 : decode cX5_isAct 166 = .ok (.ifCond .eq 14, 3) := by decide +kernel
theorem dX5_isAct_169 : decode cX5_isAct 169 = .ok (.iload_n 3, 1) := by decide +kernel
theorem dX5_isAct_170 : decode cX5_isAct 170 = .ok (.invokestatic 115, 3) := by decide +kernel
theorem dX5_isAct_173 : decode cX5_isAct 173 = .ok (.ifCond .eq 7, 3) := by decide +kernel
theorem dX5_isAct_176 : decode cX5_isAct 176 = .ok (.iconst 1, 1) := by decide +kernel
theorem dX5_isAct_177 : decode cX5_isAct 177 = .ok (.goto 4, 3) := by decide +kernel
theorem dX5_isAct_180 : decode cX5_isAct 180 = .ok (.iconst 0, 1) := by decide +kernel
theorem dX5_isAct_181 : decode cX5_isAct 181 = .ok (.ireturn, 1) := by decide +kernel
theorem dX5_isAct_182 : decode cX5_isAct 182 = .ok (.iload_n 1, 1) := by decide +kernel
theorem dX5_isAct_183 : decode cX5_isAct 183 = .ok (.invokestatic 115, 3) := by decide +kernel
theorem dX5_isAct_186 : decode cX5_isAct 186 = .ok (.ireturn, 1) := by decide +kernel
theorem dX5_isAct_187 : decode cX5_isAct 187 = .ok (.iload_n 1, 1) := by decide +kernel
theorem dX5_isAct_188 : decode cX5_isAct 188 = .ok (.invokestatic 115, 3) := by decide +kernel
theorem dX5_isAct_191 : decode cX5_isAct 191 = .ok (.ifCond .eq 14, 3) := by decide +kernel
theorem dX5_isAct_194 : decode cX5_isAct 194 = .ok (.iload_n 2, 1) := by decide +kernel
theorem dX5_isAct_195 : decode cX5_isAct 195 = .ok (.invokestatic 115, 3) := by decide +kernel
theorem dX5_isAct_198 : decode cX5_isAct 198 = .ok (.ifCond .eq 7, 3) := by decide +kernel
theorem dX5_isAct_201 : decode cX5_isAct 201 = .ok (.iconst 1, 1) := by decide +kernel
theorem dX5_isAct_202 : decode cX5_isAct 202 = .ok (.goto 4, 3) := by decide +kernel
theorem dX5_isAct_205 : decode cX5_isAct 205 = .ok (.iconst 0, 1) := by decide +kernel
theorem dX5_isAct_206 : decode cX5_isAct 206 = .ok (.ireturn, 1) := by decide +kernel
theorem dX5_isAct_207 : decode cX5_isAct 207 = .ok (.iload_n 1, 1) := by decide +kernel
theorem dX5_isAct_208 : decode cX5_isAct 208 = .ok (.invokestatic 115, 3) := by decide +kernel
theorem dX5_isAct_211 : decode cX5_isAct 211 = .ok (.ifCond .eq 29, 3) := by decide +kernel
theorem dX5_isAct_214 : decode cX5_isAct 214 = .ok (.iload_n 2, 1) := by decide +kernel
theorem dX5_isAct_215 : decode cX5_isAct 215 = .ok (.invokestatic 122, 3) := by decide +kernel
theorem dX5_isAct_218 : decode cX5_isAct 218 = .ok (.ifCond .eq 22, 3) := by decide +kernel
theorem dX5_isAct_221 : decode cX5_isAct 221 = .ok (.iload_n 3, 1) := by decide +kernel
theorem dX5_isAct_222 : decode cX5_isAct 222 = .ok (.invokestatic 115, 3) := by decide +kernel
theorem dX5_isAct_225 : decode cX5_isAct 225 = .ok (.ifCond .eq 15, 3) := by decide +kernel
theorem dX5_isAct_228 : decode cX5_isAct 228 = .ok (.iload 4, 2) := by decide +kernel
theorem dX5_isAct_230 : decode cX5_isAct 230 = .ok (.invokestatic 115, 3) := by decide +kernel
theorem dX5_isAct_233 : decode cX5_isAct 233 = .ok (.ifCond .eq 7, 3) := by decide +kernel
theorem dX5_isAct_236 : decode cX5_isAct 236 = .ok (.iconst 1, 1) := by decide +kernel
theorem dX5_isAct_237 : decode cX5_isAct 237 = .ok (.goto 4, 3) := by decide +kernel
theorem dX5_isAct_240 : decode cX5_isAct 240 = .ok (.iconst 0, 1) := by decide +kernel
theorem dX5_isAct_241 : decode cX5_isAct 241 = .ok (.ireturn, 1) := by decide +kernel
theorem dX5_isAct_242 : decode cX5_isAct 242 = .ok (.iload_n 1, 1) := by decide +kernel
theorem dX5_isAct_243 : decode cX5_isAct 243 = .ok (.invokestatic 115, 3) := by decide +kernel
theorem dX5_isAct_246 : decode cX5_isAct 246 = .ok (.ifCond .eq 29, 3) := by decide +kernel
theorem dX5_isAct_249 : decode cX5_isAct 249 = .ok (.iload_n 2, 1) := by decide +kernel
theorem dX5_isAct_250 : decode cX5_isAct 250 = .ok (.invokestatic 115, 3) := by decide +kernel
theorem dX5_isAct_253 : decode cX5_isAct 253 = .ok (.ifCond .eq 22, 3) := by decide +kernel
theorem dX5_isAct_256 : decode cX5_isAct 256 = .ok (.iload_n 3, 1) := by decide +kernel
theorem dX5_isAct_257 : decode cX5_isAct 257 = .ok (.invokestatic 122, 3) := by decide +kernel
theorem dX5_isAct_260 : decode cX5_isAct 260 = .ok (.ifCond .eq 15, 3) := by decide +kernel
theorem dX5_isAct_263 : decode cX5_isAct 263 = .ok (.iload 4, 2) := by decide +kernel
theorem dX5_isAct_265 : decode cX5_isAct 265 = .ok (.invokestatic 115, 3) := by decide +kernel
theorem dX5_isAct_268 : decode cX5_isAct 268 = .ok (.ifCond .eq 7, 3) := by decide +kernel
theorem dX5_isAct_271 : decode cX5_isAct 271 = .ok (.iconst 1, 1) := by decide +kernel
theorem dX5_isAct_272 : decode cX5_isAct 272 = .ok (.goto 4, 3) := by decide +kernel
theorem dX5_isAct_275 : decode cX5_isAct 275 = .ok (.iconst 0, 1) := by decide +kernel
theorem dX5_isAct_276 : decode cX5_isAct 276 = .ok (.ireturn, 1) := by decide +kernel
theorem dX5_isAct_277 : decode cX5_isAct 277 = .ok (.iload_n 1, 1) := by decide +kernel
theorem dX5_isAct_278 : decode cX5_isAct 278 = .ok (.invokestatic 115, 3) := by decide +kernel
theorem dX5_isAct_281 : decode cX5_isAct 281 = .ok (.ifCond .eq 37, 3) := by decide +kernel
theorem dX5_isAct_284 : decode cX5_isAct 284 = .ok (.iload_n 2, 1) := by decide +kernel
theorem dX5_isAct_285 : decode cX5_isAct 285 = .ok (.invokestatic 115, 3) := by decide +kernel
theorem dX5_isAct_288 : decode cX5_isAct 288 = .ok (.ifCond .eq 30, 3) := by decide +kernel
theorem dX5_isAct_291 : decode cX5_isAct 291 = .ok (.iload_n 3, 1) := by decide +kernel
theorem dX5_isAct_292 : decode cX5_isAct 292 = .ok (.invokestatic 115, 3) := by decide +kernel
theorem dX5_isAct_295 : decode cX5_isAct 295 = .ok (.ifCond .eq 23, 3) := by decide +kernel
theorem dX5_isAct_298 : decode cX5_isAct 298 = .ok (.iload 4, 2) := by decide +kernel
theorem dX5_isAct_300 : decode cX5_isAct 300 = .ok (.invokestatic 115, 3) := by decide +kernel
theorem dX5_isAct_303 : decode cX5_isAct 303 = .ok (.ifCond .eq 15, 3) := by decide +kernel
theorem dX5_isAct_306 : decode cX5_isAct 306 = .ok (.iload 5, 2) := by decide +kernel
theorem dX5_isAct_308 : decode cX5_isAct 308 = .ok (.invokestatic 115, 3) := by decide +kernel
theorem dX5_isAct_311 : decode cX5_isAct 311 = .ok (.ifCond .eq 7, 3) := by decide +kernel
theorem dX5_isAct_314 : decode cX5_isAct 314 = .ok (.iconst 1, 1) := by decide +kernel
theorem dX5_isAct_315 : decode cX5_isAct 315 = .ok (.goto 4, 3) := by decide +kernel
theorem dX5_isAct_318 : decode cX5_isAct 318 = .ok (.iconst 0, 1) := by decide +kernel
theorem dX5_isAct_319 : decode cX5_isAct 319 = .ok (.ireturn, 1) := by decide +kernel
theorem dX5_isAct_320 : decode cX5_isAct 320 = .ok (.iload_n 1, 1) := by decide +kernel
theorem dX5_isAct_321 : decode cX5_isAct 321 = .ok (.invokestatic 115, 3) := by decide +kernel
theorem dX5_isAct_324 : decode cX5_isAct 324 = .ok (.ifCond .eq 37, 3) := by decide +kernel
theorem dX5_isAct_327 : decode cX5_isAct 327 = .ok (.iload_n 2, 1) := by decide +kernel
theorem dX5_isAct_328 : decode cX5_isAct 328 = .ok (.invokestatic 122, 3) := by decide +kernel
theorem dX5_isAct_331 : decode cX5_isAct 331 = .ok (.ifCond .eq 30, 3) := by decide +kernel
theorem dX5_isAct_334 : decode cX5_isAct 334 = .ok (.iload_n 3, 1) := by decide +kernel
theorem dX5_isAct_335 : decode cX5_isAct 335 = .ok (.invokestatic 115, 3) := by decide +kernel
theorem dX5_isAct_338 : decode cX5_isAct 338 = .ok (.ifCond .eq 23, 3) := by decide +kernel
theorem dX5_isAct_341 : decode cX5_isAct 341 = .ok (.iload 4, 2) := by decide +kernel
theorem dX5_isAct_343 : decode cX5_isAct 343 = .ok (.invokestatic 115, 3) := by decide +kernel
theorem dX5_isAct_346 : decode cX5_isAct 346 = .ok (.ifCond .eq 15, 3) := by decide +kernel
theorem dX5_isAct_349 : decode cX5_isAct 349 = .ok (.iload 5, 2) := by decide +kernel
theorem dX5_isAct_351 : decode cX5_isAct 351 = .ok (.invokestatic 115, 3) := by decide +kernel
theorem dX5_isAct_354 : decode cX5_isAct 354 = .ok (.ifCond .eq 7, 3) := by decide +kernel
theorem dX5_isAct_357 : decode cX5_isAct 357 = .ok (.iconst 1, 1) := by decide +kernel
theorem dX5_isAct_358 : decode cX5_isAct 358 = .ok (.goto 4, 3) := by decide +kernel
theorem dX5_isAct_361 : decode cX5_isAct 361 = .ok (.iconst 0, 1) := by decide +kernel
theorem dX5_isAct_362 : decode cX5_isAct 362 = .ok (.ireturn, 1) := by decide +kernel
theorem dX5_isAct_363 : decode cX5_isAct 363 = .ok (.iload_n 2, 1) := by decide +kernel
theorem dX5_isAct_364 : decode cX5_isAct 364 = .ok (.iconst 1, 1) := by decide +kernel
theorem dX5_isAct_365 : decode cX5_isAct 365 = .ok (.if_icmp .lt 13, 3) := by decide +kernel
theorem dX5_isAct_368 : decode cX5_isAct 368 = .ok (.iload_n 2, 1) := by decide +kernel
theorem dX5_isAct_369 : decode cX5_isAct 369 = .ok (.bipush 10, 2) := by decide +kernel
theorem dX5_isAct_371 : decode cX5_isAct 371 = .ok (.if_icmp .gt 7, 3) := by decide +kernel
theorem dX5_isAct_374 : decode cX5_isAct 374 = .ok (.iconst 1, 1) := by decide +kernel
theorem dX5_isAct_375 : decode cX5_isAct 375 = .ok (.goto 4, 3) := by decide +kernel
theorem dX5_isAct_378 : decode cX5_isAct 378 = .ok (.iconst 0, 1) := by decide +kernel
theorem dX5_isAct_379 : decode cX5_isAct 379 = .ok (.ireturn, 1) := by decide +kernel
theorem dX5_isAct_380 : decode cX5_isAct 380 = .ok (.iconst 0, 1) := by decide +kernel
theorem dX5_isAct_381 : decode cX5_isAct 381 = .ok (.ireturn, 1) := by decide +kernel
theorem dX5_act_0 : decode cX5_act 0 = .ok (.iload_n 1, 1) := by decide +kernel
theorem dX5_act_1 : decode cX5_act 1 = .ok (.iload_n 2, 1) := by decide +kernel
theorem dX5_act_2 : decode cX5_act 2 = .ok (.iload_n 3, 1) := by decide +kernel
theorem dX5_act_3 : decode cX5_act 3 = .ok (.iload 4, 2) := by decide +kernel
theorem dX5_act_5 : decode cX5_act 5 = .ok (.iload 5, 2) := by decide +kernel
theorem dX5_act_7 : decode cX5_act 7 = .ok (.iload 6, 2) := by decide +kernel
theorem dX5_act_9 : decode cX5_act 9 = .ok (.invokestatic 125, 3) := by decide +kernel
theorem dX5_act_12 : decode cX5_act 12 = .ok (.ifCond .ne 6, 3) := by decide +kernel
theorem dX5_act_15 : decode cX5_act 15 = .ok (.bipush (-2), 2) := by decide +kernel
theorem dX5_act_17 : decode cX5_act 17 = .ok (.ireturn, 1) := by decide +kernel
theorem dX5_act_18 : decode cX5_act 18 = .ok (.aload_n 0, 1) := by decide +kernel
theorem dX5_act_19 : decode cX5_act 19 = .ok (.getfield 110, 3) := by decide +kernel
theorem dX5_act_22 : decode cX5_act 22 = .ok (.bipush 40, 2) := by decide +kernel
theorem dX5_act_24 : decode cX5_act 24 = .ok (.if_icmp .ne 6, 3) := by decide +kernel
theorem dX5_act_27 : decode cX5_act 27 = .ok (.bipush (-4), 2) := by decide +kernel
theorem dX5_act_29 : decode cX5_act 29 = .ok (.ireturn, 1) := by decide +kernel
theorem dX5_act_30 : decode cX5_act 30 = .ok (.aload_n 0, 1) := by decide +kernel
theorem dX5_act_31 : decode cX5_act 31 = .ok (.getfield 7, 3) := by decide +kernel
theorem dX5_act_34 : decode cX5_act 34 = .ok (.aload_n 0, 1) := by decide +kernel
theorem dX5_act_35 : decode cX5_act 35 = .ok (.getfield 110, 3) := by decide +kernel
theorem dX5_act_38 : decode cX5_act 38 = .ok (.iload_n 1, 1) := by decide +kernel
theorem dX5_act_39 : decode cX5_act 39 = .ok (.iastore, 1) := by decide +kernel
theorem dX5_act_40 : decode cX5_act 40 = .ok (.aload_n 0, 1) := by decide +kernel
theorem dX5_act_41 : decode cX5_act 41 = .ok (.getfield 13, 3) := by decide +kernel
theorem dX5_act_44 : decode cX5_act 44 = .ok (.aload_n 0, 1) := by decide +kernel
theorem dX5_act_45 : decode cX5_act 45 = .ok (.getfield 110, 3) := by decide +kernel
theorem dX5_act_48 : decode cX5_act 48 = .ok (.iload_n 2, 1) := by decide +kernel
theorem dX5_act_49 : decode cX5_act 49 = .ok (.iastore, 1) := by decide +kernel
theorem dX5_act_50 : decode cX5_act 50 = .ok (.aload_n 0, 1) := by decide +kernel
theorem dX5_act_51 : decode cX5_act 51 = .ok (.getfield 16, 3) := by decide +kernel
theorem dX5_act_54 : decode cX5_act 54 = .ok (.aload_n 0, 1) := by decide +kernel
theorem dX5_act_55 : decode cX5_act 55 = .ok (.getfield 110, 3) := by decide +kernel
theorem dX5_act_58 : decode cX5_act 58 = .ok (.iload_n 3, 1) := by decide +kernel
theorem dX5_act_59 : decode cX5_act 59 = .ok (.iastore, 1) := by decide +kernel
theorem dX5_act_60 : decode cX5_act 60 = .ok (.aload_n 0, 1) := by decide +kernel
theorem dX5_act_61 : decode cX5_act 61 = .ok (.getfield 19, 3) := by decide +kernel
theorem dX5_act_64 : decode cX5_act 64 = .ok (.aload_n 0, 1) := by decide +kernel
theorem dX5_act_65 : decode cX5_act 65 = .ok (.getfield 110, 3) := by decide +kernel
theorem dX5_act_68 : decode cX5_act 68 = .ok (.iload 4, 2) := by decide +kernel
theorem dX5_act_70 : decode cX5_act 70 = .ok (.iastore, 1) := by decide +kernel
theorem dX5_act_71 : decode cX5_act 71 = .ok (.aload_n 0, 1) := by decide +kernel
theorem dX5_act_72 : decode cX5_act 72 = .ok (.getfield 22, 3) := by decide +kernel
theorem dX5_act_75 : decode cX5_act 75 = .ok (.aload_n 0, 1) := by decide +kernel
theorem dX5_act_76 : decode cX5_act 76 = .ok (.getfield 110, 3) := by decide +kernel
theorem dX5_act_79 : decode cX5_act 79 = .ok (.iload 5, 2) := by decide +kernel
theorem dX5_act_81 : decode cX5_act 81 = .ok (.iastore, 1) := by decide +kernel
theorem dX5_act_82 : decode cX5_act 82 = .ok (.aload_n 0, 1) := by decide +kernel
theorem dX5_act_83 : decode cX5_act 83 = .ok (.getfield 25, 3) := by decide +kernel
theorem dX5_act_86 : decode cX5_act 86 = .ok (.aload_n 0, 1) := by decide +kernel
theorem dX5_act_87 : decode cX5_act 87 = .ok (.getfield 110, 3) := by decide +kernel
theorem dX5_act_90 : decode cX5_act 90 = .ok (.iload 6, 2) := by decide +kernel
theorem dX5_act_92 : decode cX5_act 92 = .ok (.iastore, 1) := by decide +kernel
theorem dX5_act_93 : decode cX5_act 93 = .ok (.aload_n 0, 1) := by decide +kernel
theorem dX5_act_94 : decode cX5_act 94 = .ok (.getfield 28, 3) := by decide +kernel
theorem dX5_act_97 : decode cX5_act 97 = .ok (.aload_n 0, 1) := by decide +kernel
theorem dX5_act_98 : decode cX5_act 98 = .ok (.getfield 110, 3) := by decide +kernel
theorem dX5_act_101 : decode cX5_act 101 = .ok (.iconst 0, 1) := by decide +kernel
theorem dX5_act_102 : decode cX5_act 102 = .ok (.bastore, 1) := by decide +kernel
theorem dX5_act_103 : decode cX5_act 103 = .ok (.aload_n 0, 1) := by decide +kernel
theorem dX5_act_104 : decode cX5_act 104 = .ok (.dup, 1) := by decide +kernel
theorem dX5_act_105 : decode cX5_act 105 = .ok (.getfield 110, 3) := by decide +kernel
theorem dX5_act_108 : decode cX5_act 108 = .ok (.iconst 1, 1) := by decide +kernel
theorem dX5_act_109 : decode cX5_act 109 = .ok (.iadd, 1) := by decide +kernel
theorem dX5_act_110 : decode cX5_act 110 = .ok (.putfield 110, 3) := by decide +kernel
theorem dX5_act_113 : decode cX5_act 113 = .ok (.aload_n 0, 1) := by decide +kernel
theorem dX5_act_114 : decode cX5_act 114 = .ok (.invokevirtual 96, 3) := by decide +kernel
theorem dX5_act_117 : decode cX5_act 117 = .ok (.aload_n 0, 1) := by decide +kernel
theorem dX5_act_118 : decode cX5_act 118 = .ok (.getfield 110, 3) := by decide +kernel
theorem dX5_act_121 : decode cX5_act 121 = .ok (.iconst 1, 1) := by decide +kernel
theorem dX5_act_122 : decode cX5_act 122 = .ok (.isub, 1) := by decide +kernel
theorem dX5_act_123 : decode cX5_act 123 = .ok (.ireturn, 1) := by decide +kernel
theorem dX5_drop_0 : decode cX5_drop 0 = .ok (.iload_n 1, 1) := by decide +kernel
theorem dX5_drop_1 : decode cX5_drop 1 = .ok (.ifCond .lt 11, 3) := by decide +kernel
theorem dX5_drop_4 : decode cX5_drop 4 = .ok (.iload_n 1, 1) := by decide +kernel
theorem dX5_drop_5 : decode cX5_drop 5 = .ok (.aload_n 0, 1) := by decide +kernel
theorem dX5_drop_6 : decode cX5_drop 6 = .ok (.getfield 110, 3) := by decide +kernel
theorem dX5_drop_9 : decode cX5_drop 9 = .ok (.if_icmp .lt 6, 3) := by decide +kernel
theorem dX5_drop_12 : decode cX5_drop 12 = .ok (.bipush (-2), 2) := by decide +kernel
theorem dX5_drop_14 : decode cX5_drop 14 = .ok (.ireturn, 1) := by decide +kernel
theorem dX5_drop_15 : decode cX5_drop 15 = .ok (.aload_n 0, 1) := by decide +kernel
theorem dX5_drop_16 : decode cX5_drop 16 = .ok (.getfield 28, 3) := by decide +kernel
theorem dX5_drop_19 : decode cX5_drop 19 = .ok (.iload_n 1, 1) := by decide +kernel
theorem dX5_drop_20 : decode cX5_drop 20 = .ok (.baload, 1) := by decide +kernel
theorem dX5_drop_21 : decode cX5_drop 21 = .ok (.ifCond .eq 5, 3) := by decide +kernel
theorem dX5_drop_24 : decode cX5_drop 24 = .ok (.iconst 0, 1) := by decide +kernel
theorem dX5_drop_25 : decode cX5_drop 25 = .ok (.ireturn, 1) := by decide +kernel
theorem dX5_drop_26 : decode cX5_drop 26 = .ok (.aload_n 0, 1) := by decide +kernel
theorem dX5_drop_27 : decode cX5_drop 27 = .ok (.getfield 28, 3) := by decide +kernel
theorem dX5_drop_30 : decode cX5_drop 30 = .ok (.iload_n 1, 1) := by decide +kernel
theorem dX5_drop_31 : decode cX5_drop 31 = .ok (.iconst 1, 1) := by decide +kernel
theorem dX5_drop_32 : decode cX5_drop 32 = .ok (.bastore, 1) := by decide +kernel
theorem dX5_drop_33 : decode cX5_drop 33 = .ok (.aload_n 0, 1) := by decide +kernel
theorem dX5_drop_34 : decode cX5_drop 34 = .ok (.invokevirtual 96, 3) := by decide +kernel
theorem dX5_drop_37 : decode cX5_drop 37 = .ok (.iconst 1, 1) := by decide +kernel
theorem dX5_drop_38 : decode cX5_drop 38 = .ok (.ireturn, 1) := by decide +kernel
theorem dX5_flow_0 : decode cX5_flow 0 = .ok (.aload_n 0, 1) := by decide +kernel
theorem dX5_flow_1 : decode cX5_flow 1 = .ok (.getfield 32, 3) := by decide +kernel
theorem dX5_flow_4 : decode cX5_flow 4 = .ok (.iconst 0, 1) := by decide +kernel
theorem dX5_flow_5 : decode cX5_flow 5 = .ok (.iconst 1, 1) := by decide +kernel
theorem dX5_flow_6 : decode cX5_flow 6 = .ok (.bastore, 1) := by decide +kernel
theorem dX5_flow_7 : decode cX5_flow 7 = .ok (.aload_n 0, 1) := by decide +kernel
theorem dX5_flow_8 : decode cX5_flow 8 = .ok (.getfield 32, 3) := by decide +kernel
theorem dX5_flow_11 : decode cX5_flow 11 = .ok (.iconst 1, 1) := by decide +kernel
theorem dX5_flow_12 : decode cX5_flow 12 = .ok (.iconst 0, 1) := by decide +kernel
theorem dX5_flow_13 : decode cX5_flow 13 = .ok (.bastore, 1) := by decide +kernel
theorem dX5_flow_14 : decode cX5_flow 14 = .ok (.iconst 0, 1) := by decide +kernel
theorem dX5_flow_15 : decode cX5_flow 15 = .ok (.istore_n 1, 1) := by decide +kernel
theorem dX5_flow_16 : decode cX5_flow 16 = .ok (.iload_n 1, 1) := by decide +kernel
theorem dX5_flow_17 : decode cX5_flow 17 = .ok (.bipush 6, 2) := by decide +kernel
theorem dX5_flow_19 : decode cX5_flow 19 = .ok (.if_icmp .ge 37, 3) := by decide +kernel
theorem dX5_flow_22 : decode cX5_flow 22 = .ok (.aload_n 0, 1) := by decide +kernel
theorem dX5_flow_23 : decode cX5_flow 23 = .ok (.getfield 35, 3) := by decide +kernel
theorem dX5_flow_26 : decode cX5_flow 26 = .ok (.iload_n 1, 1) := by decide +kernel
theorem dX5_flow_27 : decode cX5_flow 27 = .ok (.lconst 0, 1) := by decide +kernel
theorem dX5_flow_28 : decode cX5_flow 28 = .ok (.lastore, 1) := by decide +kernel
theorem dX5_flow_29 : decode cX5_flow 29 = .ok (.aload_n 0, 1) := by decide +kernel
theorem dX5_flow_30 : decode cX5_flow 30 = .ok (.getfield 39, 3) := by decide +kernel
theorem dX5_flow_33 : decode cX5_flow 33 = .ok (.iload_n 1, 1) := by decide +kernel
theorem dX5_flow_34 : decode cX5_flow 34 = .ok (.lconst 0, 1) := by decide +kernel
theorem dX5_flow_35 : decode cX5_flow 35 = .ok (.lastore, 1) := by decide +kernel
theorem dX5_flow_36 : decode cX5_flow 36 = .ok (.aload_n 0, 1) := by decide +kernel
theorem dX5_flow_37 : decode cX5_flow 37 = .ok (.getfield 42, 3) := by decide +kernel
theorem dX5_flow_40 : decode cX5_flow 40 = .ok (.iload_n 1, 1) := by decide +kernel
theorem dX5_flow_41 : decode cX5_flow 41 = .ok (.lconst 0, 1) := by decide +kernel
theorem dX5_flow_42 : decode cX5_flow 42 = .ok (.lastore, 1) := by decide +kernel
theorem dX5_flow_43 : decode cX5_flow 43 = .ok (.aload_n 0, 1) := by decide +kernel
theorem dX5_flow_44 : decode cX5_flow 44 = .ok (.getfield 45, 3) := by decide +kernel
theorem dX5_flow_47 : decode cX5_flow 47 = .ok (.iload_n 1, 1) := by decide +kernel
theorem dX5_flow_48 : decode cX5_flow 48 = .ok (.iconst 1, 1) := by decide +kernel
theorem dX5_flow_49 : decode cX5_flow 49 = .ok (.bastore, 1) := by decide +kernel
theorem dX5_flow_50 : decode cX5_flow 50 = .ok (.iinc 1 1, 3) := by decide +kernel
theorem dX5_flow_53 : decode cX5_flow 53 = .ok (.goto (-37), 3) := by decide +kernel
theorem dX5_flow_56 : decode cX5_flow 56 = .ok (.iconst 0, 1) := by decide +kernel
theorem dX5_flow_57 : decode cX5_flow 57 = .ok (.istore_n 1, 1) := by decide +kernel
theorem dX5_flow_58 : decode cX5_flow 58 = .ok (.iload_n 1, 1) := by decide +kernel
theorem dX5_flow_59 : decode cX5_flow 59 = .ok (.bipush 40, 2) := by decide +kernel
theorem dX5_flow_61 : decode cX5_flow 61 = .ok (.if_icmp .ge 30, 3) := by decide +kernel
theorem dX5_flow_64 : decode cX5_flow 64 = .ok (.aload_n 0, 1) := by decide +kernel
theorem dX5_flow_65 : decode cX5_flow 65 = .ok (.getfield 48, 3) := by decide +kernel
theorem dX5_flow_68 : decode cX5_flow 68 = .ok (.iload_n 1, 1) := by decide +kernel
theorem dX5_flow_69 : decode cX5_flow 69 = .ok (.iconst 0, 1) := by decide +kernel
theorem dX5_flow_70 : decode cX5_flow 70 = .ok (.bastore, 1) := by decide +kernel
theorem dX5_flow_71 : decode cX5_flow 71 = .ok (.aload_n 0, 1) := by decide +kernel
theorem dX5_flow_72 : decode cX5_flow 72 = .ok (.getfield 66, 3) := by decide +kernel
theorem dX5_flow_75 : decode cX5_flow 75 = .ok (.iload_n 1, 1) := by decide +kernel
theorem dX5_flow_76 : decode cX5_flow 76 = .ok (.iconst 0, 1) := by decide +kernel
theorem dX5_flow_77 : decode cX5_flow 77 = .ok (.bastore, 1) := by decide +kernel
theorem dX5_flow_78 : decode cX5_flow 78 = .ok (.aload_n 0, 1) := by decide +kernel
theorem dX5_flow_79 : decode cX5_flow 79 = .ok (.getfield 69, 3) := by decide +kernel
theorem dX5_flow_82 : decode cX5_flow 82 = .ok (.iload_n 1, 1) := by decide +kernel
theorem dX5_flow_83 : decode cX5_flow 83 = .ok (.iconst 0, 1) := by decide +kernel
theorem dX5_flow_84 : decode cX5_flow 84 = .ok (.iastore, 1) := by decide +kernel
theorem dX5_flow_85 : decode cX5_flow 85 = .ok (.iinc 1 1, 3) := by decide +kernel
theorem dX5_flow_88 : decode cX5_flow 88 = .ok (.goto (-30), 3) := by decide +kernel
theorem dX5_flow_91 : decode cX5_flow 91 = .ok (.iconst (-1), 1) := by decide +kernel
theorem dX5_flow_92 : decode cX5_flow 92 = .ok (.istore_n 1, 1) := by decide +kernel
theorem dX5_flow_93 : decode cX5_flow 93 = .ok (.iconst 0, 1) := by decide +kernel
theorem dX5_flow_94 : decode cX5_flow 94 = .ok (.istore_n 2, 1) := by decide +kernel
theorem dX5_flow_95 : decode cX5_flow 95 = .ok (.iload_n 2, 1) := by decide +kernel
theorem dX5_flow_96 : decode cX5_flow 96 = .ok (.aload_n 0, 1) := by decide +kernel
theorem dX5_flow_97 : decode cX5_flow 97 = .ok (.getfield 110, 3) := by decide +kernel
theorem dX5_flow_100 : decode cX5_flow 100 = .ok (.if_icmp .ge 129, 3) := by decide +kernel
theorem dX5_flow_103 : decode cX5_flow 103 = .ok (.iload_n 2, 1) := by decide +kernel
theorem dX5_flow_104 : decode cX5_flow 104 = .ok (.iload_n 1, 1) := by decide +kernel
theorem dX5_flow_105 : decode cX5_flow 105 = .ok (.if_icmp .ne 9, 3) := by decide +kernel
theorem dX5_flow_108 : decode cX5_flow 108 = .ok (.aload_n 0, 1) := by decide +kernel
theorem dX5_flow_109 : decode cX5_flow 109 = .ok (.invokevirtual 160, 3) := by decide +kernel
theorem dX5_flow_112 : decode cX5_flow 112 = .ok (.iconst (-1), 1) := by decide +kernel
theorem dX5_flow_113 : decode cX5_flow 113 = .ok (.istore_n 1, 1) := by decide +kernel
theorem dX5_flow_114 : decode cX5_flow 114 = .ok (.aload_n 0, 1) := by decide +kernel
theorem dX5_flow_115 : decode cX5_flow 115 = .ok (.getfield 28, 3) := by decide +kernel
theorem dX5_flow_118 : decode cX5_flow 118 = .ok (.iload_n 2, 1) := by decide +kernel
theorem dX5_flow_119 : decode cX5_flow 119 = .ok (.baload, 1) := by decide +kernel
theorem dX5_flow_120 : decode cX5_flow 120 = .ok (.ifCond .ne 103, 3) := by decide +kernel
theorem dX5_flow_123 : decode cX5_flow 123 = .ok (.aload_n 0, 1) := by decide +kernel
theorem dX5_flow_124 : decode cX5_flow 124 = .ok (.getfield 66, 3) := by decide +kernel
theorem dX5_flow_127 : decode cX5_flow 127 = .ok (.iload_n 2, 1) := by decide +kernel
theorem dX5_flow_128 : decode cX5_flow 128 = .ok (.aload_n 0, 1) := by decide +kernel
theorem dX5_flow_129 : decode cX5_flow 129 = .ok (.getfield 32, 3) := by decide +kernel
theorem dX5_flow_132 : decode cX5_flow 132 = .ok (.iconst 0, 1) := by decide +kernel
theorem dX5_flow_133 : decode cX5_flow 133 = .ok (.baload, 1) := by decide +kernel
theorem dX5_flow_134 : decode cX5_flow 134 = .ok (.bastore, 1) := by decide +kernel
theorem dX5_flow_135 : decode cX5_flow 135 = .ok (.aload_n 0, 1) := by decide +kernel
theorem dX5_flow_136 : decode cX5_flow 136 = .ok (.getfield 7, 3) := by decide +kernel
theorem dX5_flow_139 : decode cX5_flow 139 = .ok (.iload_n 2, 1) := by decide +kernel
theorem dX5_flow_140 : decode cX5_flow 140 = .ok (.iaload, 1) := by decide +kernel
theorem dX5_flow_141 : decode cX5_flow 141 = .ok (.bipush 14, 2) := by decide +kernel
theorem dX5_flow_143 : decode cX5_flow 143 = .ok (.if_icmp .ne 66, 3) := by decide +kernel
theorem dX5_flow_146 : decode cX5_flow 146 = .ok (.iload_n 1, 1) := by decide +kernel
theorem dX5_flow_147 : decode cX5_flow 147 = .ok (.ifCond .ge 76, 3) := by decide +kernel
theorem dX5_flow_150 : decode cX5_flow 150 = .ok (.aload_n 0, 1) := by decide +kernel
theorem dX5_flow_151 : decode cX5_flow 151 = .ok (.iconst 0, 1) := by decide +kernel
theorem dX5_flow_152 : decode cX5_flow 152 = .ok (.iconst 1, 1) := by decide +kernel
theorem dX5_flow_153 : decode cX5_flow 153 = .ok (.invokevirtual 154, 3) := by decide +kernel
theorem dX5_flow_156 : decode cX5_flow 156 = .ok (.iload_n 2, 1) := by decide +kernel
theorem dX5_flow_157 : decode cX5_flow 157 = .ok (.aload_n 0, 1) := by decide +kernel
theorem dX5_flow_158 : decode cX5_flow 158 = .ok (.getfield 16, 3) := by decide +kernel
theorem dX5_flow_161 : decode cX5_flow 161 = .ok (.iload_n 2, 1) := by decide +kernel
theorem dX5_flow_162 : decode cX5_flow 162 = .ok (.iaload, 1) := by decide +kernel
theorem dX5_flow_163 : decode cX5_flow 163 = .ok (.iadd, 1) := by decide +kernel
theorem dX5_flow_164 : decode cX5_flow 164 = .ok (.aload_n 0, 1) := by decide +kernel
theorem dX5_flow_165 : decode cX5_flow 165 = .ok (.getfield 110, 3) := by decide +kernel
theorem dX5_flow_168 : decode cX5_flow 168 = .ok (.if_icmp .ge 16, 3) := by decide +kernel
theorem dX5_flow_171 : decode cX5_flow 171 = .ok (.iload_n 2, 1) := by decide +kernel
theorem dX5_flow_172 : decode cX5_flow 172 = .ok (.aload_n 0, 1) := by decide +kernel
theorem dX5_flow_173 : decode cX5_flow 173 = .ok (.getfield 16, 3) := by decide +kernel
theorem dX5_flow_176 : decode cX5_flow 176 = .ok (.iload_n 2, 1) := by decide +kernel
theorem dX5_flow_177 : decode cX5_flow 177 = .ok (.iaload, 1) := by decide +kernel
theorem dX5_flow_178 : decode cX5_flow 178 = .ok (.iadd, 1) := by decide +kernel
theorem dX5_flow_179 : decode cX5_flow 179 = .ok (.iconst 1, 1) := by decide +kernel
theorem dX5_flow_180 : decode cX5_flow 180 = .ok (.iadd, 1) := by decide +kernel
theorem dX5_flow_181 : decode cX5_flow 181 = .ok (.goto 7, 3) := by decide +kernel
theorem dX5_flow_184 : decode cX5_flow 184 = .ok (.aload_n 0, 1) := by decide +kernel
theorem dX5_flow_185 : decode cX5_flow 185 = .ok (.getfield 110, 3) := by decide +kernel
theorem dX5_flow_188 : decode cX5_flow 188 = .ok (.istore_n 1, 1) := by decide +kernel
theorem dX5_flow_189 : decode cX5_flow 189 = .ok (.iload_n 1, 1) := by decide +kernel
theorem dX5_flow_190 : decode cX5_flow 190 = .ok (.aload_n 0, 1) := by decide +kernel
theorem dX5_flow_191 : decode cX5_flow 191 = .ok (.getfield 110, 3) := by decide +kernel
theorem dX5_flow_194 : decode cX5_flow 194 = .ok (.if_icmp .le 10, 3) := by decide +kernel
theorem dX5_flow_197 : decode cX5_flow 197 = .ok (.aload_n 0, 1) := by decide +kernel
theorem dX5_flow_198 : decode cX5_flow 198 = .ok (.getfield 110, 3) := by decide +kernel
theorem dX5_flow_201 : decode cX5_flow 201 = .ok (.goto 4, 3) := by decide +kernel
theorem dX5_flow_204 : decode cX5_flow 204 = .ok (.iload_n 1, 1) := by decide +kernel
theorem dX5_flow_205 : decode cX5_flow 205 = .ok (.istore_n 1, 1) := by decide +kernel
theorem dX5_flow_206 : decode cX5_flow 206 = .ok (.goto 17, 3) := by decide +kernel
theorem dX5_flow_209 : decode cX5_flow 209 = .ok (.aload_n 0, 1) := by decide +kernel
theorem dX5_flow_210 : decode cX5_flow 210 = .ok (.getfield 32, 3) := by decide +kernel
theorem dX5_flow_213 : decode cX5_flow 213 = .ok (.iconst 0, 1) := by decide +kernel
theorem dX5_flow_214 : decode cX5_flow 214 = .ok (.baload, 1) := by decide +kernel
theorem dX5_flow_215 : decode cX5_flow 215 = .ok (.ifCond .eq 8, 3) := by decide +kernel
theorem dX5_flow_218 : decode cX5_flow 218 = .ok (.aload_n 0, 1) := by decide +kernel
theorem dX5_flow_219 : decode cX5_flow 219 = .ok (.iload_n 2, 1) := by decide +kernel
theorem dX5_flow_220 : decode cX5_flow 220 = .ok (.invokevirtual 163, 3) := by decide +kernel
theorem dX5_flow_223 : decode cX5_flow 223 = .ok (.iinc 2 1, 3) := by decide +kernel
theorem dX5_flow_226 : decode cX5_flow 226 = .ok (.goto (-131), 3) := by decide +kernel
theorem dX5_flow_229 : decode cX5_flow 229 = .ok (.iload_n 1, 1) := by decide +kernel
theorem dX5_flow_230 : decode cX5_flow 230 = .ok (.ifCond .lt 7, 3) := by decide +kernel
theorem dX5_flow_233 : decode cX5_flow 233 = .ok (.aload_n 0, 1) := by decide +kernel
theorem dX5_flow_234 : decode cX5_flow 234 = .ok (.invokevirtual 160, 3) := by decide +kernel
theorem dX5_flow_237 : decode cX5_flow 237 = .ok (.return_, 1) := by decide +kernel
theorem dX5_reached_0 : decode cX5_reached 0 = .ok (.iload_n 1, 1) := by decide +kernel
theorem dX5_reached_1 : decode cX5_reached 1 = .ok (.ifCond .lt 11, 3) := by decide +kernel
theorem dX5_reached_4 : decode cX5_reached 4 = .ok (.iload_n 1, 1) := by decide +kernel
theorem dX5_reached_5 : decode cX5_reached 5 = .ok (.aload_n 0, 1) := by decide +kernel
theorem dX5_reached_6 : decode cX5_reached 6 = .ok (.getfield 110, 3) := by decide +kernel
theorem dX5_reached_9 : decode cX5_reached 9 = .ok (.if_icmp .lt 6, 3) := by decide +kernel
theorem dX5_reached_12 : decode cX5_reached 12 = .ok (.bipush (-2), 2) := by decide +kernel
theorem dX5_reached_14 : decode cX5_reached 14 = .ok (.ireturn, 1) := by decide +kernel
theorem dX5_reached_15 : decode cX5_reached 15 = .ok (.aload_n 0, 1) := by decide +kernel
theorem dX5_reached_16 : decode cX5_reached 16 = .ok (.invokevirtual 253, 3) := by decide +kernel
theorem dX5_reached_19 : decode cX5_reached 19 = .ok (.aload_n 0, 1) := by decide +kernel
theorem dX5_reached_20 : decode cX5_reached 20 = .ok (.getfield 66, 3) := by decide +kernel
theorem dX5_reached_23 : decode cX5_reached 23 = .ok (.iload_n 1, 1) := by decide +kernel
theorem dX5_reached_24 : decode cX5_reached 24 = .ok (.baload, 1) := by decide +kernel
theorem dX5_reached_25 : decode cX5_reached 25 = .ok (.ifCond .eq 7, 3) := by decide +kernel
theorem dX5_reached_28 : decode cX5_reached 28 = .ok (.iconst 1, 1) := by decide +kernel
theorem dX5_reached_29 : decode cX5_reached 29 = .ok (.goto 4, 3) := by decide +kernel
theorem dX5_reached_32 : decode cX5_reached 32 = .ok (.iconst 0, 1) := by decide +kernel
theorem dX5_reached_33 : decode cX5_reached 33 = .ok (.ireturn, 1) := by decide +kernel
theorem dX5_throwsAt_0 : decode cX5_throwsAt 0 = .ok (.iload_n 1, 1) := by decide +kernel
theorem dX5_throwsAt_1 : decode cX5_throwsAt 1 = .ok (.ifCond .lt 11, 3) := by decide +kernel
theorem dX5_throwsAt_4 : decode cX5_throwsAt 4 = .ok (.iload_n 1, 1) := by decide +kernel
theorem dX5_throwsAt_5 : decode cX5_throwsAt 5 = .ok (.aload_n 0, 1) := by decide +kernel
theorem dX5_throwsAt_6 : decode cX5_throwsAt 6 = .ok (.getfield 110, 3) := by decide +kernel
theorem dX5_throwsAt_9 : decode cX5_throwsAt 9 = .ok (.if_icmp .lt 6, 3) := by decide +kernel
theorem dX5_throwsAt_12 : decode cX5_throwsAt 12 = .ok (.bipush (-2), 2) := by decide +kernel
theorem dX5_throwsAt_14 : decode cX5_throwsAt 14 = .ok (.ireturn, 1) := by decide +kernel
theorem dX5_throwsAt_15 : decode cX5_throwsAt 15 = .ok (.aload_n 0, 1) := by decide +kernel
theorem dX5_throwsAt_16 : decode cX5_throwsAt 16 = .ok (.invokevirtual 253, 3) := by decide +kernel
theorem dX5_throwsAt_19 : decode cX5_throwsAt 19 = .ok (.aload_n 0, 1) := by decide +kernel
theorem dX5_throwsAt_20 : decode cX5_throwsAt 20 = .ok (.getfield 69, 3) := by decide +kernel
theorem dX5_throwsAt_23 : decode cX5_throwsAt 23 = .ok (.iload_n 1, 1) := by decide +kernel
theorem dX5_throwsAt_24 : decode cX5_throwsAt 24 = .ok (.iaload, 1) := by decide +kernel
theorem dX5_throwsAt_25 : decode cX5_throwsAt 25 = .ok (.ireturn, 1) := by decide +kernel
theorem dX5_ends_0 : decode cX5_ends 0 = .ok (.aload_n 0, 1) := by decide +kernel
theorem dX5_ends_1 : decode cX5_ends 1 = .ok (.invokevirtual 253, 3) := by decide +kernel
theorem dX5_ends_4 : decode cX5_ends 4 = .ok (.aload_n 0, 1) := by decide +kernel
theorem dX5_ends_5 : decode cX5_ends 5 = .ok (.getfield 32, 3) := by decide +kernel
theorem dX5_ends_8 : decode cX5_ends 8 = .ok (.iconst 0, 1) := by decide +kernel
theorem dX5_ends_9 : decode cX5_ends 9 = .ok (.baload, 1) := by decide +kernel
theorem dX5_ends_10 : decode cX5_ends 10 = .ok (.ifCond .eq 7, 3) := by decide +kernel
theorem dX5_ends_13 : decode cX5_ends 13 = .ok (.iconst 1, 1) := by decide +kernel
theorem dX5_ends_14 : decode cX5_ends 14 = .ok (.goto 4, 3) := by decide +kernel
theorem dX5_ends_17 : decode cX5_ends 17 = .ok (.iconst 0, 1) := by decide +kernel
theorem dX5_ends_18 : decode cX5_ends 18 = .ok (.ireturn, 1) := by decide +kernel
theorem dX5_tell_0 : decode cX5_tell 0 = .ok (.aload_n 0, 1) := by decide +kernel
theorem dX5_tell_1 : decode cX5_tell 1 = .ok (.iconst 0, 1) := by decide +kernel
theorem dX5_tell_2 : decode cX5_tell 2 = .ok (.putfield 256, 3) := by decide +kernel
theorem dX5_tell_5 : decode cX5_tell 5 = .ok (.lload_n 1, 1) := by decide +kernel
theorem dX5_tell_6 : decode cX5_tell 6 = .ok (.l2i, 1) := by decide +kernel
theorem dX5_tell_7 : decode cX5_tell 7 = .ok (.ireturn, 1) := by decide +kernel
theorem dX5_refuse_0 : decode cX5_refuse 0 = .ok (.aload_n 0, 1) := by decide +kernel
theorem dX5_refuse_1 : decode cX5_refuse 1 = .ok (.iload_n 1, 1) := by decide +kernel
theorem dX5_refuse_2 : decode cX5_refuse 2 = .ok (.putfield 256, 3) := by decide +kernel
theorem dX5_refuse_5 : decode cX5_refuse 5 = .ok (.iload_n 1, 1) := by decide +kernel
theorem dX5_refuse_6 : decode cX5_refuse 6 = .ok (.ireturn, 1) := by decide +kernel
theorem dX5_variable_0 : decode cX5_variable 0 = .ok (.iload_n 1, 1) := by decide +kernel
theorem dX5_variable_1 : decode cX5_variable 1 = .ok (.invokestatic 115, 3) := by decide +kernel
theorem dX5_variable_4 : decode cX5_variable 4 = .ok (.ifCond .eq 12, 3) := by decide +kernel
theorem dX5_variable_7 : decode cX5_variable 7 = .ok (.iload_n 2, 1) := by decide +kernel
theorem dX5_variable_8 : decode cX5_variable 8 = .ok (.ifCond .lt 8, 3) := by decide +kernel
theorem dX5_variable_11 : decode cX5_variable 11 = .ok (.iload_n 2, 1) := by decide +kernel
theorem dX5_variable_12 : decode cX5_variable 12 = .ok (.iconst 1, 1) := by decide +kernel
theorem dX5_variable_13 : decode cX5_variable 13 = .ok (.if_icmp .le 10, 3) := by decide +kernel
theorem dX5_variable_16 : decode cX5_variable 16 = .ok (.aload_n 0, 1) := by decide +kernel
theorem dX5_variable_17 : decode cX5_variable 17 = .ok (.bipush (-2), 2) := by decide +kernel
theorem dX5_variable_19 : decode cX5_variable 19 = .ok (.invokevirtual 259, 3) := by decide +kernel
theorem dX5_variable_22 : decode cX5_variable 22 = .ok (.ireturn, 1) := by decide +kernel
theorem dX5_variable_23 : decode cX5_variable 23 = .ok (.aload_n 0, 1) := by decide +kernel
theorem dX5_variable_24 : decode cX5_variable 24 = .ok (.invokevirtual 253, 3) := by decide +kernel
theorem dX5_variable_27 : decode cX5_variable 27 = .ok (.aload_n 0, 1) := by decide +kernel
theorem dX5_variable_28 : decode cX5_variable 28 = .ok (.getfield 32, 3) := by decide +kernel
theorem dX5_variable_31 : decode cX5_variable 31 = .ok (.iconst 0, 1) := by decide +kernel
theorem dX5_variable_32 : decode cX5_variable 32 = .ok (.baload, 1) := by decide +kernel
theorem dX5_variable_33 : decode cX5_variable 33 = .ok (.ifCond .ne 12, 3) := by decide +kernel
theorem dX5_variable_36 : decode cX5_variable 36 = .ok (.aload_n 0, 1) := by decide +kernel
theorem dX5_variable_37 : decode cX5_variable 37 = .ok (.bipush (-3), 2) := by decide +kernel
theorem dX5_variable_39 : decode cX5_variable 39 = .ok (.invokevirtual 259, 3) := by decide +kernel
theorem dX5_variable_42 : decode cX5_variable 42 = .ok (.goto 26, 3) := by decide +kernel
theorem dX5_variable_45 : decode cX5_variable 45 = .ok (.aload_n 0, 1) := by decide +kernel
theorem dX5_variable_46 : decode cX5_variable 46 = .ok (.iload_n 2, 1) := by decide +kernel
theorem dX5_variable_47 : decode cX5_variable 47 = .ok (.ifCond .ne 12, 3) := by decide +kernel
theorem dX5_variable_50 : decode cX5_variable 50 = .ok (.aload_n 0, 1) := by decide +kernel
theorem dX5_variable_51 : decode cX5_variable 51 = .ok (.getfield 35, 3) := by decide +kernel
theorem dX5_variable_54 : decode cX5_variable 54 = .ok (.iload_n 1, 1) := by decide +kernel
theorem dX5_variable_55 : decode cX5_variable 55 = .ok (.laload, 1) := by decide +kernel
theorem dX5_variable_56 : decode cX5_variable 56 = .ok (.goto 9, 3) := by decide +kernel
theorem dX5_variable_59 : decode cX5_variable 59 = .ok (.aload_n 0, 1) := by decide +kernel
theorem dX5_variable_60 : decode cX5_variable 60 = .ok (.getfield 39, 3) := by decide +kernel
theorem dX5_variable_63 : decode cX5_variable 63 = .ok (.iload_n 1, 1) := by decide +kernel
theorem dX5_variable_64 : decode cX5_variable 64 = .ok (.laload, 1) := by decide +kernel
theorem dX5_variable_65 : decode cX5_variable 65 = .ok (.invokevirtual 262, 3) := by decide +kernel
theorem dX5_variable_68 : decode cX5_variable 68 = .ok (.ireturn, 1) := by decide +kernel
theorem dX5_reference_0 : decode cX5_reference 0 = .ok (.iload_n 1, 1) := by decide +kernel
theorem dX5_reference_1 : decode cX5_reference 1 = .ok (.invokestatic 115, 3) := by decide +kernel
theorem dX5_reference_4 : decode cX5_reference 4 = .ok (.ifCond .ne 6, 3) := by decide +kernel
theorem dX5_reference_7 : decode cX5_reference 7 = .ok (.bipush (-2), 2) := by decide +kernel
theorem dX5_reference_9 : decode cX5_reference 9 = .ok (.ireturn, 1) := by decide +kernel
theorem dX5_reference_10 : decode cX5_reference 10 = .ok (.aload_n 0, 1) := by decide +kernel
theorem dX5_reference_11 : decode cX5_reference 11 = .ok (.invokevirtual 253, 3) := by decide +kernel
theorem dX5_reference_14 : decode cX5_reference 14 = .ok (.aload_n 0, 1) := by decide +kernel
theorem dX5_reference_15 : decode cX5_reference 15 = .ok (.getfield 32, 3) := by decide +kernel
theorem dX5_reference_18 : decode cX5_reference 18 = .ok (.iconst 0, 1) := by decide +kernel
theorem dX5_reference_19 : decode cX5_reference 19 = .ok (.baload, 1) := by decide +kernel
theorem dX5_reference_20 : decode cX5_reference 20 = .ok (.ifCond .ne 6, 3) := by decide +kernel
theorem dX5_reference_23 : decode cX5_reference 23 = .ok (.bipush (-3), 2) := by decide +kernel
theorem dX5_reference_25 : decode cX5_reference 25 = .ok (.ireturn, 1) := by decide +kernel
theorem dX5_reference_26 : decode cX5_reference 26 = .ok (.iconst 0, 1) := by decide +kernel
theorem dX5_reference_27 : decode cX5_reference 27 = .ok (.istore_n 2, 1) := by decide +kernel
theorem dX5_reference_28 : decode cX5_reference 28 = .ok (.iconst 0, 1) := by decide +kernel
theorem dX5_reference_29 : decode cX5_reference 29 = .ok (.istore_n 3, 1) := by decide +kernel
theorem dX5_reference_30 : decode cX5_reference 30 = .ok (.iload_n 3, 1) := by decide +kernel
theorem dX5_reference_31 : decode cX5_reference 31 = .ok (.bipush 40, 2) := by decide +kernel
theorem dX5_reference_33 : decode cX5_reference 33 = .ok (.if_icmp .ge 26, 3) := by decide +kernel
theorem dX5_reference_36 : decode cX5_reference 36 = .ok (.iload_n 2, 1) := by decide +kernel
theorem dX5_reference_37 : decode cX5_reference 37 = .ok (.aload_n 0, 1) := by decide +kernel
theorem dX5_reference_38 : decode cX5_reference 38 = .ok (.iload_n 1, 1) := by decide +kernel
theorem dX5_reference_39 : decode cX5_reference 39 = .ok (.iload_n 3, 1) := by decide +kernel
theorem dX5_reference_40 : decode cX5_reference 40 = .ok (.invokevirtual 169, 3) := by decide +kernel
theorem dX5_reference_43 : decode cX5_reference 43 = .ok (.ifCond .eq 7, 3) := by decide +kernel
theorem dX5_reference_46 : decode cX5_reference 46 = .ok (.iconst 2, 1) := by decide +kernel
theorem dX5_reference_47 : decode cX5_reference 47 = .ok (.goto 4, 3) := by decide +kernel
theorem dX5_reference_50 : decode cX5_reference 50 = .ok (.iconst 0, 1) := by decide +kernel
theorem dX5_reference_51 : decode cX5_reference 51 = .ok (.iadd, 1) := by decide +kernel
theorem dX5_reference_52 : decode cX5_reference 52 = .ok (.istore_n 2, 1) := by decide +kernel
theorem dX5_reference_53 : decode cX5_reference 53 = .ok (.iinc 3 1, 3) := by decide +kernel
theorem dX5_reference_56 : decode cX5_reference 56 = .ok (.goto (-26), 3) := by decide +kernel
theorem dX5_reference_59 : decode cX5_reference 59 = .ok (.iload_n 2, 1) := by decide +kernel
theorem dX5_reference_60 : decode cX5_reference 60 = .ok (.aload_n 0, 1) := by decide +kernel
theorem dX5_reference_61 : decode cX5_reference 61 = .ok (.getfield 45, 3) := by decide +kernel
theorem dX5_reference_64 : decode cX5_reference 64 = .ok (.iload_n 1, 1) := by decide +kernel
theorem dX5_reference_65 : decode cX5_reference 65 = .ok (.baload, 1) := by decide +kernel
theorem dX5_reference_66 : decode cX5_reference 66 = .ok (.ifCond .eq 7, 3) := by decide +kernel
theorem dX5_reference_69 : decode cX5_reference 69 = .ok (.iconst 1, 1) := by decide +kernel
theorem dX5_reference_70 : decode cX5_reference 70 = .ok (.goto 4, 3) := by decide +kernel
theorem dX5_reference_73 : decode cX5_reference 73 = .ok (.iconst 0, 1) := by decide +kernel
theorem dX5_reference_74 : decode cX5_reference 74 = .ok (.iadd, 1) := by decide +kernel
theorem dX5_reference_75 : decode cX5_reference 75 = .ok (.ireturn, 1) := by decide +kernel
theorem dX5_has_0 : decode cX5_has 0 = .ok (.aload_n 0, 1) := by decide +kernel
theorem dX5_has_1 : decode cX5_has 1 = .ok (.getfield 42, 3) := by decide +kernel
theorem dX5_has_4 : decode cX5_has 4 = .ok (.iload_n 1, 1) := by decide +kernel
theorem dX5_has_5 : decode cX5_has 5 = .ok (.laload, 1) := by decide +kernel
theorem dX5_has_6 : decode cX5_has 6 = .ok (.iload_n 2, 1) := by decide +kernel
theorem dX5_has_7 : decode cX5_has 7 = .ok (.lshr, 1) := by decide +kernel
theorem dX5_has_8 : decode cX5_has 8 = .ok (.lconst 1, 1) := by decide +kernel
theorem dX5_has_9 : decode cX5_has 9 = .ok (.land, 1) := by decide +kernel
theorem dX5_has_10 : decode cX5_has 10 = .ok (.lconst 1, 1) := by decide +kernel
theorem dX5_has_11 : decode cX5_has 11 = .ok (.lcmp, 1) := by decide +kernel
theorem dX5_has_12 : decode cX5_has 12 = .ok (.ifCond .ne 7, 3) := by decide +kernel
theorem dX5_has_15 : decode cX5_has 15 = .ok (.iconst 1, 1) := by decide +kernel
theorem dX5_has_16 : decode cX5_has 16 = .ok (.goto 4, 3) := by decide +kernel
theorem dX5_has_19 : decode cX5_has 19 = .ok (.iconst 0, 1) := by decide +kernel
theorem dX5_has_20 : decode cX5_has 20 = .ok (.ireturn, 1) := by decide +kernel
theorem dX5_means_0 : decode cX5_means 0 = .ok (.iload_n 1, 1) := by decide +kernel
theorem dX5_means_1 : decode cX5_means 1 = .ok (.invokestatic 115, 3) := by decide +kernel
theorem dX5_means_4 : decode cX5_means 4 = .ok (.ifCond .eq 15, 3) := by decide +kernel
theorem dX5_means_7 : decode cX5_means 7 = .ok (.iload_n 2, 1) := by decide +kernel
theorem dX5_means_8 : decode cX5_means 8 = .ok (.ifCond .lt 11, 3) := by decide +kernel
theorem dX5_means_11 : decode cX5_means 11 = .ok (.iload_n 2, 1) := by decide +kernel
theorem dX5_means_12 : decode cX5_means 12 = .ok (.aload_n 0, 1) := by decide +kernel
theorem dX5_means_13 : decode cX5_means 13 = .ok (.getfield 110, 3) := by decide +kernel
theorem dX5_means_16 : decode cX5_means 16 = .ok (.if_icmp .lt 6, 3) := by decide +kernel
theorem dX5_means_19 : decode cX5_means 19 = .ok (.bipush (-2), 2) := by decide +kernel
theorem dX5_means_21 : decode cX5_means 21 = .ok (.ireturn, 1) := by decide +kernel
theorem dX5_means_22 : decode cX5_means 22 = .ok (.aload_n 0, 1) := by decide +kernel
theorem dX5_means_23 : decode cX5_means 23 = .ok (.invokevirtual 253, 3) := by decide +kernel
theorem dX5_means_26 : decode cX5_means 26 = .ok (.aload_n 0, 1) := by decide +kernel
theorem dX5_means_27 : decode cX5_means 27 = .ok (.getfield 32, 3) := by decide +kernel
theorem dX5_means_30 : decode cX5_means 30 = .ok (.iconst 0, 1) := by decide +kernel
theorem dX5_means_31 : decode cX5_means 31 = .ok (.baload, 1) := by decide +kernel
theorem dX5_means_32 : decode cX5_means 32 = .ok (.ifCond .ne 8, 3) := by decide +kernel
theorem dX5_means_35 : decode cX5_means 35 = .ok (.bipush (-3), 2) := by decide +kernel
theorem dX5_means_37 : decode cX5_means 37 = .ok (.goto 17, 3) := by decide +kernel
theorem dX5_means_40 : decode cX5_means 40 = .ok (.aload_n 0, 1) := by decide +kernel
theorem dX5_means_41 : decode cX5_means 41 = .ok (.iload_n 1, 1) := by decide +kernel
theorem dX5_means_42 : decode cX5_means 42 = .ok (.iload_n 2, 1) := by decide +kernel
theorem dX5_means_43 : decode cX5_means 43 = .ok (.invokevirtual 169, 3) := by decide +kernel
theorem dX5_means_46 : decode cX5_means 46 = .ok (.ifCond .eq 7, 3) := by decide +kernel
theorem dX5_means_49 : decode cX5_means 49 = .ok (.iconst 1, 1) := by decide +kernel
theorem dX5_means_50 : decode cX5_means 50 = .ok (.goto 4, 3) := by decide +kernel
theorem dX5_means_53 : decode cX5_means 53 = .ok (.iconst 0, 1) := by decide +kernel
theorem dX5_means_54 : decode cX5_means 54 = .ok (.ireturn, 1) := by decide +kernel
theorem dX5_array_0 : decode cX5_array 0 = .ok (.iload_n 1, 1) := by decide +kernel
theorem dX5_array_1 : decode cX5_array 1 = .ok (.ifCond .lt 20, 3) := by decide +kernel
theorem dX5_array_4 : decode cX5_array 4 = .ok (.iload_n 1, 1) := by decide +kernel
theorem dX5_array_5 : decode cX5_array 5 = .ok (.aload_n 0, 1) := by decide +kernel
theorem dX5_array_6 : decode cX5_array 6 = .ok (.getfield 110, 3) := by decide +kernel
theorem dX5_array_9 : decode cX5_array 9 = .ok (.if_icmp .ge 12, 3) := by decide +kernel
theorem dX5_array_12 : decode cX5_array 12 = .ok (.iload_n 2, 1) := by decide +kernel
theorem dX5_array_13 : decode cX5_array 13 = .ok (.ifCond .lt 8, 3) := by decide +kernel
theorem dX5_array_16 : decode cX5_array 16 = .ok (.iload_n 2, 1) := by decide +kernel
theorem dX5_array_17 : decode cX5_array 17 = .ok (.iconst 4, 1) := by decide +kernel
theorem dX5_array_18 : decode cX5_array 18 = .ok (.if_icmp .le 6, 3) := by decide +kernel
theorem dX5_array_21 : decode cX5_array 21 = .ok (.bipush (-2), 2) := by decide +kernel
theorem dX5_array_23 : decode cX5_array 23 = .ok (.ireturn, 1) := by decide +kernel
theorem dX5_array_24 : decode cX5_array 24 = .ok (.aload_n 0, 1) := by decide +kernel
theorem dX5_array_25 : decode cX5_array 25 = .ok (.iload_n 1, 1) := by decide +kernel
theorem dX5_array_26 : decode cX5_array 26 = .ok (.invokevirtual 269, 3) := by decide +kernel
theorem dX5_array_29 : decode cX5_array 29 = .ok (.istore_n 3, 1) := by decide +kernel
theorem dX5_array_30 : decode cX5_array 30 = .ok (.iload_n 3, 1) := by decide +kernel
theorem dX5_array_31 : decode cX5_array 31 = .ok (.ifCond .eq 5, 3) := by decide +kernel
theorem dX5_array_34 : decode cX5_array 34 = .ok (.iload_n 3, 1) := by decide +kernel
theorem dX5_array_35 : decode cX5_array 35 = .ok (.ireturn, 1) := by decide +kernel
theorem dX5_array_36 : decode cX5_array 36 = .ok (.iload_n 2, 1) := by decide +kernel
theorem dX5_array_37 : decode cX5_array 37 = .ok (.ifCond .ne 12, 3) := by decide +kernel
theorem dX5_array_40 : decode cX5_array 40 = .ok (.aload_n 0, 1) := by decide +kernel
theorem dX5_array_41 : decode cX5_array 41 = .ok (.getfield 51, 3) := by decide +kernel
theorem dX5_array_44 : decode cX5_array 44 = .ok (.iload_n 1, 1) := by decide +kernel
theorem dX5_array_45 : decode cX5_array 45 = .ok (.iaload, 1) := by decide +kernel
theorem dX5_array_46 : decode cX5_array 46 = .ok (.goto 59, 3) := by decide +kernel
theorem dX5_array_49 : decode cX5_array 49 = .ok (.iload_n 2, 1) := by decide +kernel
theorem dX5_array_50 : decode cX5_array 50 = .ok (.iconst 1, 1) := by decide +kernel
theorem dX5_array_51 : decode cX5_array 51 = .ok (.if_icmp .ne 13, 3) := by decide +kernel
theorem dX5_array_54 : decode cX5_array 54 = .ok (.aload_n 0, 1) := by decide +kernel
theorem dX5_array_55 : decode cX5_array 55 = .ok (.getfield 54, 3) := by decide +kernel
theorem dX5_array_58 : decode cX5_array 58 = .ok (.iload_n 1, 1) := by decide +kernel
theorem dX5_array_59 : decode cX5_array 59 = .ok (.laload, 1) := by decide +kernel
theorem dX5_array_60 : decode cX5_array 60 = .ok (.l2i, 1) := by decide +kernel
theorem dX5_array_61 : decode cX5_array 61 = .ok (.goto 44, 3) := by decide +kernel
theorem dX5_array_64 : decode cX5_array 64 = .ok (.iload_n 2, 1) := by decide +kernel
theorem dX5_array_65 : decode cX5_array 65 = .ok (.iconst 2, 1) := by decide +kernel
theorem dX5_array_66 : decode cX5_array 66 = .ok (.if_icmp .ne 13, 3) := by decide +kernel
theorem dX5_array_69 : decode cX5_array 69 = .ok (.aload_n 0, 1) := by decide +kernel
theorem dX5_array_70 : decode cX5_array 70 = .ok (.getfield 57, 3) := by decide +kernel
theorem dX5_array_73 : decode cX5_array 73 = .ok (.iload_n 1, 1) := by decide +kernel
theorem dX5_array_74 : decode cX5_array 74 = .ok (.laload, 1) := by decide +kernel
theorem dX5_array_75 : decode cX5_array 75 = .ok (.l2i, 1) := by decide +kernel
theorem dX5_array_76 : decode cX5_array 76 = .ok (.goto 29, 3) := by decide +kernel
theorem dX5_array_79 : decode cX5_array 79 = .ok (.iload_n 2, 1) := by decide +kernel
theorem dX5_array_80 : decode cX5_array 80 = .ok (.iconst 3, 1) := by decide +kernel
theorem dX5_array_81 : decode cX5_array 81 = .ok (.if_icmp .ne 11, 3) := by decide +kernel
theorem dX5_array_84 : decode cX5_array 84 = .ok (.aload_n 0, 1) := by decide +kernel
theorem dX5_array_85 : decode cX5_array 85 = .ok (.iload_n 1, 1) := by decide +kernel
theorem dX5_array_86 : decode cX5_array 86 = .ok (.invokevirtual 272, 3) := by decide +kernel
theorem dX5_array_89 : decode cX5_array 89 = .ok (.goto 16, 3) := by decide +kernel
theorem dX5_array_92 : decode cX5_array 92 = .ok (.aload_n 0, 1) := by decide +kernel
theorem dX5_array_93 : decode cX5_array 93 = .ok (.iload_n 1, 1) := by decide +kernel
theorem dX5_array_94 : decode cX5_array 94 = .ok (.invokevirtual 275, 3) := by decide +kernel
theorem dX5_array_97 : decode cX5_array 97 = .ok (.ifCond .eq 7, 3) := by decide +kernel
theorem dX5_array_100 : decode cX5_array 100 = .ok (.iconst 1, 1) := by decide +kernel
theorem dX5_array_101 : decode cX5_array 101 = .ok (.goto 4, 3) := by decide +kernel
theorem dX5_array_104 : decode cX5_array 104 = .ok (.iconst 0, 1) := by decide +kernel
theorem dX5_array_105 : decode cX5_array 105 = .ok (.ireturn, 1) := by decide +kernel
theorem dX5_segment_0 : decode cX5_segment 0 = .ok (.iload_n 1, 1) := by decide +kernel
theorem dX5_segment_1 : decode cX5_segment 1 = .ok (.ifCond .lt 24, 3) := by decide +kernel
theorem dX5_segment_4 : decode cX5_segment 4 = .ok (.iload_n 1, 1) := by decide +kernel
theorem dX5_segment_5 : decode cX5_segment 5 = .ok (.aload_n 0, 1) := by decide +kernel
theorem dX5_segment_6 : decode cX5_segment 6 = .ok (.getfield 110, 3) := by decide +kernel
theorem dX5_segment_9 : decode cX5_segment 9 = .ok (.if_icmp .ge 16, 3) := by decide +kernel
theorem dX5_segment_12 : decode cX5_segment 12 = .ok (.iload_n 3, 1) := by decide +kernel
theorem dX5_segment_13 : decode cX5_segment 13 = .ok (.ifCond .lt 12, 3) := by decide +kernel
theorem dX5_segment_16 : decode cX5_segment 16 = .ok (.iload_n 3, 1) := by decide +kernel
theorem dX5_segment_17 : decode cX5_segment 17 = .ok (.iconst 3, 1) := by decide +kernel
theorem dX5_segment_18 : decode cX5_segment 18 = .ok (.if_icmp .gt 7, 3) := by decide +kernel
theorem dX5_segment_21 : decode cX5_segment 21 = .ok (.iload_n 2, 1) := by decide +kernel
theorem dX5_segment_22 : decode cX5_segment 22 = .ok (.ifCond .ge 10, 3) := by decide +kernel
theorem dX5_segment_25 : decode cX5_segment 25 = .ok (.aload_n 0, 1) := by decide +kernel
theorem dX5_segment_26 : decode cX5_segment 26 = .ok (.bipush (-2), 2) := by decide +kernel
theorem dX5_segment_28 : decode cX5_segment 28 = .ok (.invokevirtual 259, 3) := by decide +kernel
theorem dX5_segment_31 : decode cX5_segment 31 = .ok (.ireturn, 1) := by decide +kernel
theorem dX5_segment_32 : decode cX5_segment 32 = .ok (.aload_n 0, 1) := by decide +kernel
theorem dX5_segment_33 : decode cX5_segment 33 = .ok (.iload_n 1, 1) := by decide +kernel
theorem dX5_segment_34 : decode cX5_segment 34 = .ok (.invokevirtual 269, 3) := by decide +kernel
theorem dX5_segment_37 : decode cX5_segment 37 = .ok (.istore 4, 2) := by decide +kernel
theorem dX5_segment_39 : decode cX5_segment 39 = .ok (.iload 4, 2) := by decide +kernel
theorem dX5_segment_41 : decode cX5_segment 41 = .ok (.ifCond .eq 10, 3) := by decide +kernel
theorem dX5_segment_44 : decode cX5_segment 44 = .ok (.aload_n 0, 1) := by decide +kernel
theorem dX5_segment_45 : decode cX5_segment 45 = .ok (.iload 4, 2) := by decide +kernel
theorem dX5_segment_47 : decode cX5_segment 47 = .ok (.invokevirtual 259, 3) := by decide +kernel
theorem dX5_segment_50 : decode cX5_segment 50 = .ok (.ireturn, 1) := by decide +kernel
theorem dX5_segment_51 : decode cX5_segment 51 = .ok (.iload_n 2, 1) := by decide +kernel
theorem dX5_segment_52 : decode cX5_segment 52 = .ok (.aload_n 0, 1) := by decide +kernel
theorem dX5_segment_53 : decode cX5_segment 53 = .ok (.iload_n 1, 1) := by decide +kernel
theorem dX5_segment_54 : decode cX5_segment 54 = .ok (.invokevirtual 272, 3) := by decide +kernel
theorem dX5_segment_57 : decode cX5_segment 57 = .ok (.if_icmp .lt 10, 3) := by decide +kernel
theorem dX5_segment_60 : decode cX5_segment 60 = .ok (.aload_n 0, 1) := by decide +kernel
theorem dX5_segment_61 : decode cX5_segment 61 = .ok (.bipush (-2), 2) := by decide +kernel
theorem dX5_segment_63 : decode cX5_segment 63 = .ok (.invokevirtual 259, 3) := by decide +kernel
theorem dX5_segment_66 : decode cX5_segment 66 = .ok (.ireturn, 1) := by decide +kernel
theorem dX5_segment_67 : decode cX5_segment 67 = .ok (.iconst 0, 1) := by decide +kernel
theorem dX5_segment_68 : decode cX5_segment 68 = .ok (.istore 5, 2) := by decide +kernel
theorem dX5_segment_70 : decode cX5_segment 70 = .ok (.iconst 0, 1) := by decide +kernel
theorem dX5_segment_71 : decode cX5_segment 71 = .ok (.istore 6, 2) := by decide +kernel
theorem dX5_segment_73 : decode cX5_segment 73 = .ok (.iload 6, 2) := by decide +kernel
theorem dX5_segment_75 : decode cX5_segment 75 = .ok (.iload_n 2, 1) := by decide +kernel
theorem dX5_segment_76 : decode cX5_segment 76 = .ok (.if_icmp .ge 28, 3) := by decide +kernel
theorem dX5_segment_79 : decode cX5_segment 79 = .ok (.iinc 5 1, 3) := by decide +kernel
theorem dX5_segment_82 : decode cX5_segment 82 = .ok (.aload_n 0, 1) := by decide +kernel
theorem dX5_segment_83 : decode cX5_segment 83 = .ok (.iload_n 1, 1) := by decide +kernel
theorem dX5_segment_84 : decode cX5_segment 84 = .ok (.iload 5, 2) := by decide +kernel
theorem dX5_segment_86 : decode cX5_segment 86 = .ok (.invokevirtual 266, 3) := by decide +kernel
theorem dX5_segment_89 : decode cX5_segment 89 = .ok (.ifCond .eq 9, 3) := by decide +kernel
theorem dX5_segment_92 : decode cX5_segment 92 = .ok (.iinc 5 1, 3) := by decide +kernel
theorem dX5_segment_95 : decode cX5_segment 95 = .ok (.goto (-13), 3) := by decide +kernel
theorem dX5_segment_98 : decode cX5_segment 98 = .ok (.iinc 6 1, 3) := by decide +kernel
theorem dX5_segment_101 : decode cX5_segment 101 = .ok (.goto (-28), 3) := by decide +kernel
theorem dX5_segment_104 : decode cX5_segment 104 = .ok (.iload 5, 2) := by decide +kernel
theorem dX5_segment_106 : decode cX5_segment 106 = .ok (.iconst 1, 1) := by decide +kernel
theorem dX5_segment_107 : decode cX5_segment 107 = .ok (.iadd, 1) := by decide +kernel
theorem dX5_segment_108 : decode cX5_segment 108 = .ok (.istore 6, 2) := by decide +kernel
theorem dX5_segment_110 : decode cX5_segment 110 = .ok (.iload 6, 2) := by decide +kernel
theorem dX5_segment_112 : decode cX5_segment 112 = .ok (.i2l, 1) := by decide +kernel
theorem dX5_segment_113 : decode cX5_segment 113 = .ok (.aload_n 0, 1) := by decide +kernel
theorem dX5_segment_114 : decode cX5_segment 114 = .ok (.getfield 57, 3) := by decide +kernel
theorem dX5_segment_117 : decode cX5_segment 117 = .ok (.iload_n 1, 1) := by decide +kernel
theorem dX5_segment_118 : decode cX5_segment 118 = .ok (.laload, 1) := by decide +kernel
theorem dX5_segment_119 : decode cX5_segment 119 = .ok (.lcmp, 1) := by decide +kernel
theorem dX5_segment_120 : decode cX5_segment 120 = .ok (.ifCond .ge 19, 3) := by decide +kernel
theorem dX5_segment_123 : decode cX5_segment 123 = .ok (.aload_n 0, 1) := by decide +kernel
theorem dX5_segment_124 : decode cX5_segment 124 = .ok (.iload_n 1, 1) := by decide +kernel
theorem dX5_segment_125 : decode cX5_segment 125 = .ok (.iload 6, 2) := by decide +kernel
theorem dX5_segment_127 : decode cX5_segment 127 = .ok (.invokevirtual 266, 3) := by decide +kernel
theorem dX5_segment_130 : decode cX5_segment 130 = .ok (.ifCond .eq 9, 3) := by decide +kernel
theorem dX5_segment_133 : decode cX5_segment 133 = .ok (.iinc 6 1, 3) := by decide +kernel
theorem dX5_segment_136 : decode cX5_segment 136 = .ok (.goto (-26), 3) := by decide +kernel
theorem dX5_segment_139 : decode cX5_segment 139 = .ok (.aload_n 0, 1) := by decide +kernel
theorem dX5_segment_140 : decode cX5_segment 140 = .ok (.iload_n 3, 1) := by decide +kernel
theorem dX5_segment_141 : decode cX5_segment 141 = .ok (.ifCond .ne 9, 3) := by decide +kernel
theorem dX5_segment_144 : decode cX5_segment 144 = .ok (.iload 5, 2) := by decide +kernel
theorem dX5_segment_146 : decode cX5_segment 146 = .ok (.i2l, 1) := by decide +kernel
theorem dX5_segment_147 : decode cX5_segment 147 = .ok (.goto 46, 3) := by decide +kernel
theorem dX5_segment_150 : decode cX5_segment 150 = .ok (.iload_n 3, 1) := by decide +kernel
theorem dX5_segment_151 : decode cX5_segment 151 = .ok (.iconst 1, 1) := by decide +kernel
theorem dX5_segment_152 : decode cX5_segment 152 = .ok (.if_icmp .ne 9, 3) := by decide +kernel
theorem dX5_segment_155 : decode cX5_segment 155 = .ok (.iload 6, 2) := by decide +kernel
theorem dX5_segment_157 : decode cX5_segment 157 = .ok (.i2l, 1) := by decide +kernel
theorem dX5_segment_158 : decode cX5_segment 158 = .ok (.goto 35, 3) := by decide +kernel
theorem dX5_segment_161 : decode cX5_segment 161 = .ok (.iload_n 3, 1) := by decide +kernel
theorem dX5_segment_162 : decode cX5_segment 162 = .ok (.iconst 2, 1) := by decide +kernel
theorem dX5_segment_163 : decode cX5_segment 163 = .ok (.if_icmp .ne 18, 3) := by decide +kernel
theorem dX5_segment_166 : decode cX5_segment 166 = .ok (.aload_n 0, 1) := by decide +kernel
theorem dX5_segment_167 : decode cX5_segment 167 = .ok (.getfield 60, 3) := by decide +kernel
theorem dX5_segment_170 : decode cX5_segment 170 = .ok (.bipush 12, 2) := by decide +kernel
theorem dX5_segment_172 : decode cX5_segment 172 = .ok (.iload_n 1, 1) := by decide +kernel
theorem dX5_segment_173 : decode cX5_segment 173 = .ok (.imul, 1) := by decide +kernel
theorem dX5_segment_174 : decode cX5_segment 174 = .ok (.iload 5, 2) := by decide +kernel
theorem dX5_segment_176 : decode cX5_segment 176 = .ok (.iadd, 1) := by decide +kernel
theorem dX5_segment_177 : decode cX5_segment 177 = .ok (.laload, 1) := by decide +kernel
theorem dX5_segment_178 : decode cX5_segment 178 = .ok (.goto 15, 3) := by decide +kernel
theorem dX5_segment_181 : decode cX5_segment 181 = .ok (.aload_n 0, 1) := by decide +kernel
theorem dX5_segment_182 : decode cX5_segment 182 = .ok (.getfield 63, 3) := by decide +kernel
theorem dX5_segment_185 : decode cX5_segment 185 = .ok (.bipush 12, 2) := by decide +kernel
theorem dX5_segment_187 : decode cX5_segment 187 = .ok (.iload_n 1, 1) := by decide +kernel
theorem dX5_segment_188 : decode cX5_segment 188 = .ok (.imul, 1) := by decide +kernel
theorem dX5_segment_189 : decode cX5_segment 189 = .ok (.iload 5, 2) := by decide +kernel
theorem dX5_segment_191 : decode cX5_segment 191 = .ok (.iadd, 1) := by decide +kernel
theorem dX5_segment_192 : decode cX5_segment 192 = .ok (.laload, 1) := by decide +kernel
theorem dX5_segment_193 : decode cX5_segment 193 = .ok (.invokevirtual 262, 3) := by decide +kernel
theorem dX5_segment_196 : decode cX5_segment 196 = .ok (.ireturn, 1) := by decide +kernel
theorem dX5_status_0 : decode cX5_status 0 = .ok (.aload_n 0, 1) := by decide +kernel
theorem dX5_status_1 : decode cX5_status 1 = .ok (.getfield 256, 3) := by decide +kernel
theorem dX5_status_4 : decode cX5_status 4 = .ok (.ireturn, 1) := by decide +kernel
theorem dX5_run_0 : decode cX5_run 0 = .ok (.aload_n 0, 1) := by decide +kernel
theorem dX5_run_1 : decode cX5_run 1 = .ok (.invokevirtual 96, 3) := by decide +kernel
theorem dX5_run_4 : decode cX5_run 4 = .ok (.aload_n 0, 1) := by decide +kernel
theorem dX5_run_5 : decode cX5_run 5 = .ok (.iconst 1, 1) := by decide +kernel
theorem dX5_run_6 : decode cX5_run 6 = .ok (.putfield 99, 3) := by decide +kernel
theorem dX5_run_9 : decode cX5_run 9 = .ok (.aload_n 0, 1) := by decide +kernel
theorem dX5_run_10 : decode cX5_run 10 = .ok (.lload_n 1, 1) := by decide +kernel
theorem dX5_run_11 : decode cX5_run 11 = .ok (.putfield 278, 3) := by decide +kernel
theorem dX5_run_14 : decode cX5_run 14 = .ok (.iconst 0, 1) := by decide +kernel
theorem dX5_run_15 : decode cX5_run 15 = .ok (.istore_n 3, 1) := by decide +kernel
theorem dX5_run_16 : decode cX5_run 16 = .ok (.iconst 0, 1) := by decide +kernel
theorem dX5_run_17 : decode cX5_run 17 = .ok (.istore 4, 2) := by decide +kernel
theorem dX5_run_19 : decode cX5_run 19 = .ok (.iload 4, 2) := by decide +kernel
theorem dX5_run_21 : decode cX5_run 21 = .ok (.aload_n 0, 1) := by decide +kernel
theorem dX5_run_22 : decode cX5_run 22 = .ok (.getfield 110, 3) := by decide +kernel
theorem dX5_run_25 : decode cX5_run 25 = .ok (.if_icmp .ge 87, 3) := by decide +kernel
theorem dX5_run_28 : decode cX5_run 28 = .ok (.aload_n 0, 1) := by decide +kernel
theorem dX5_run_29 : decode cX5_run 29 = .ok (.getfield 103, 3) := by decide +kernel
theorem dX5_run_32 : decode cX5_run 32 = .ok (.ifCond .ne 80, 3) := by decide +kernel
theorem dX5_run_35 : decode cX5_run 35 = .ok (.aload_n 0, 1) := by decide +kernel
theorem dX5_run_36 : decode cX5_run 36 = .ok (.getfield 28, 3) := by decide +kernel
theorem dX5_run_39 : decode cX5_run 39 = .ok (.iload 4, 2) := by decide +kernel
theorem dX5_run_41 : decode cX5_run 41 = .ok (.baload, 1) := by decide +kernel
theorem dX5_run_42 : decode cX5_run 42 = .ok (.ifCond .ne 64, 3) := by decide +kernel
theorem dX5_run_45 : decode cX5_run 45 = .ok (.aload_n 0, 1) := by decide +kernel
theorem dX5_run_46 : decode cX5_run 46 = .ok (.getfield 7, 3) := by decide +kernel
theorem dX5_run_49 : decode cX5_run 49 = .ok (.iload 4, 2) := by decide +kernel
theorem dX5_run_51 : decode cX5_run 51 = .ok (.iaload, 1) := by decide +kernel
theorem dX5_run_52 : decode cX5_run 52 = .ok (.bipush 14, 2) := by decide +kernel
theorem dX5_run_54 : decode cX5_run 54 = .ok (.if_icmp .ne 46, 3) := by decide +kernel
theorem dX5_run_57 : decode cX5_run 57 = .ok (.iload 4, 2) := by decide +kernel
theorem dX5_run_59 : decode cX5_run 59 = .ok (.iload_n 3, 1) := by decide +kernel
theorem dX5_run_60 : decode cX5_run 60 = .ok (.if_icmp .lt 46, 3) := by decide +kernel
theorem dX5_run_63 : decode cX5_run 63 = .ok (.iload 4, 2) := by decide +kernel
theorem dX5_run_65 : decode cX5_run 65 = .ok (.aload_n 0, 1) := by decide +kernel
theorem dX5_run_66 : decode cX5_run 66 = .ok (.getfield 16, 3) := by decide +kernel
theorem dX5_run_69 : decode cX5_run 69 = .ok (.iload 4, 2) := by decide +kernel
theorem dX5_run_71 : decode cX5_run 71 = .ok (.iaload, 1) := by decide +kernel
theorem dX5_run_72 : decode cX5_run 72 = .ok (.iadd, 1) := by decide +kernel
theorem dX5_run_73 : decode cX5_run 73 = .ok (.iconst 1, 1) := by decide +kernel
theorem dX5_run_74 : decode cX5_run 74 = .ok (.iadd, 1) := by decide +kernel
theorem dX5_run_75 : decode cX5_run 75 = .ok (.istore_n 3, 1) := by decide +kernel
theorem dX5_run_76 : decode cX5_run 76 = .ok (.aload_n 0, 1) := by decide +kernel
theorem dX5_run_77 : decode cX5_run 77 = .ok (.invokevirtual 291, 3) := by decide +kernel
theorem dX5_run_80 : decode cX5_run 80 = .ok (.lconst 1, 1) := by decide +kernel
theorem dX5_run_81 : decode cX5_run 81 = .ok (.land, 1) := by decide +kernel
theorem dX5_run_82 : decode cX5_run 82 = .ok (.lconst 0, 1) := by decide +kernel
theorem dX5_run_83 : decode cX5_run 83 = .ok (.lcmp, 1) := by decide +kernel
theorem dX5_run_84 : decode cX5_run 84 = .ok (.ifCond .ne 8, 3) := by decide +kernel
theorem dX5_run_87 : decode cX5_run 87 = .ok (.iload 4, 2) := by decide +kernel
theorem dX5_run_89 : decode cX5_run 89 = .ok (.goto 6, 3) := by decide +kernel
theorem dX5_run_92 : decode cX5_run 92 = .ok (.iload_n 3, 1) := by decide +kernel
theorem dX5_run_93 : decode cX5_run 93 = .ok (.iconst 1, 1) := by decide +kernel
theorem dX5_run_94 : decode cX5_run 94 = .ok (.isub, 1) := by decide +kernel
theorem dX5_run_95 : decode cX5_run 95 = .ok (.istore 4, 2) := by decide +kernel
theorem dX5_run_97 : decode cX5_run 97 = .ok (.goto 9, 3) := by decide +kernel
theorem dX5_run_100 : decode cX5_run 100 = .ok (.aload_n 0, 1) := by decide +kernel
theorem dX5_run_101 : decode cX5_run 101 = .ok (.iload 4, 2) := by decide +kernel
theorem dX5_run_103 : decode cX5_run 103 = .ok (.invokevirtual 295, 3) := by decide +kernel
theorem dX5_run_106 : decode cX5_run 106 = .ok (.iinc 4 1, 3) := by decide +kernel
theorem dX5_run_109 : decode cX5_run 109 = .ok (.goto (-90), 3) := by decide +kernel
theorem dX5_run_112 : decode cX5_run 112 = .ok (.aload_n 0, 1) := by decide +kernel
theorem dX5_run_113 : decode cX5_run 113 = .ok (.getfield 103, 3) := by decide +kernel
theorem dX5_run_116 : decode cX5_run 116 = .ok (.ireturn, 1) := by decide +kernel
theorem dX5_where_0 : decode cX5_where 0 = .ok (.aload_n 0, 1) := by decide +kernel
theorem dX5_where_1 : decode cX5_where 1 = .ok (.getfield 107, 3) := by decide +kernel
theorem dX5_where_4 : decode cX5_where 4 = .ok (.ireturn, 1) := by decide +kernel
theorem dX5_value_0 : decode cX5_value 0 = .ok (.iload_n 1, 1) := by decide +kernel
theorem dX5_value_1 : decode cX5_value 1 = .ok (.invokestatic 115, 3) := by decide +kernel
theorem dX5_value_4 : decode cX5_value 4 = .ok (.ifCond .eq 12, 3) := by decide +kernel
theorem dX5_value_7 : decode cX5_value 7 = .ok (.aload_n 0, 1) := by decide +kernel
theorem dX5_value_8 : decode cX5_value 8 = .ok (.getfield 72, 3) := by decide +kernel
theorem dX5_value_11 : decode cX5_value 11 = .ok (.iload_n 1, 1) := by decide +kernel
theorem dX5_value_12 : decode cX5_value 12 = .ok (.iaload, 1) := by decide +kernel
theorem dX5_value_13 : decode cX5_value 13 = .ok (.goto 4, 3) := by decide +kernel
theorem dX5_value_16 : decode cX5_value 16 = .ok (.iconst 0, 1) := by decide +kernel
theorem dX5_value_17 : decode cX5_value 17 = .ok (.ireturn, 1) := by decide +kernel
theorem dX5_place_0 : decode cX5_place 0 = .ok (.iload_n 1, 1) := by decide +kernel
theorem dX5_place_1 : decode cX5_place 1 = .ok (.invokestatic 115, 3) := by decide +kernel
theorem dX5_place_4 : decode cX5_place 4 = .ok (.ifCond .eq 12, 3) := by decide +kernel
theorem dX5_place_7 : decode cX5_place 7 = .ok (.aload_n 0, 1) := by decide +kernel
theorem dX5_place_8 : decode cX5_place 8 = .ok (.getfield 75, 3) := by decide +kernel
theorem dX5_place_11 : decode cX5_place 11 = .ok (.iload_n 1, 1) := by decide +kernel
theorem dX5_place_12 : decode cX5_place 12 = .ok (.iaload, 1) := by decide +kernel
theorem dX5_place_13 : decode cX5_place 13 = .ok (.goto 4, 3) := by decide +kernel
theorem dX5_place_16 : decode cX5_place 16 = .ok (.iconst (-1), 1) := by decide +kernel
theorem dX5_place_17 : decode cX5_place 17 = .ok (.istore_n 3, 1) := by decide +kernel
theorem dX5_place_18 : decode cX5_place 18 = .ok (.iload_n 3, 1) := by decide +kernel
theorem dX5_place_19 : decode cX5_place 19 = .ok (.ifCond .lt 31, 3) := by decide +kernel
theorem dX5_place_22 : decode cX5_place 22 = .ok (.iload_n 2, 1) := by decide +kernel
theorem dX5_place_23 : decode cX5_place 23 = .ok (.ifCond .lt 27, 3) := by decide +kernel
theorem dX5_place_26 : decode cX5_place 26 = .ok (.iload_n 2, 1) := by decide +kernel
theorem dX5_place_27 : decode cX5_place 27 = .ok (.aload_n 0, 1) := by decide +kernel
theorem dX5_place_28 : decode cX5_place 28 = .ok (.getfield 81, 3) := by decide +kernel
theorem dX5_place_31 : decode cX5_place 31 = .ok (.iload_n 3, 1) := by decide +kernel
theorem dX5_place_32 : decode cX5_place 32 = .ok (.iaload, 1) := by decide +kernel
theorem dX5_place_33 : decode cX5_place 33 = .ok (.if_icmp .ge 17, 3) := by decide +kernel
theorem dX5_place_36 : decode cX5_place 36 = .ok (.aload_n 0, 1) := by decide +kernel
theorem dX5_place_37 : decode cX5_place 37 = .ok (.getfield 84, 3) := by decide +kernel
theorem dX5_place_40 : decode cX5_place 40 = .ok (.bipush 12, 2) := by decide +kernel
theorem dX5_place_42 : decode cX5_place 42 = .ok (.iload_n 3, 1) := by decide +kernel
theorem dX5_place_43 : decode cX5_place 43 = .ok (.imul, 1) := by decide +kernel
theorem dX5_place_44 : decode cX5_place 44 = .ok (.iload_n 2, 1) := by decide +kernel
theorem dX5_place_45 : decode cX5_place 45 = .ok (.iadd, 1) := by decide +kernel
theorem dX5_place_46 : decode cX5_place 46 = .ok (.iaload, 1) := by decide +kernel
theorem dX5_place_47 : decode cX5_place 47 = .ok (.goto 4, 3) := by decide +kernel
theorem dX5_place_50 : decode cX5_place 50 = .ok (.iconst 0, 1) := by decide +kernel
theorem dX5_place_51 : decode cX5_place 51 = .ok (.ireturn, 1) := by decide +kernel
theorem dX5_length_0 : decode cX5_length 0 = .ok (.iload_n 1, 1) := by decide +kernel
theorem dX5_length_1 : decode cX5_length 1 = .ok (.invokestatic 115, 3) := by decide +kernel
theorem dX5_length_4 : decode cX5_length 4 = .ok (.ifCond .ne 8, 3) := by decide +kernel
theorem dX5_length_7 : decode cX5_length 7 = .ok (.bipush (-2), 2) := by decide +kernel
theorem dX5_length_9 : decode cX5_length 9 = .ok (.goto 27, 3) := by decide +kernel
theorem dX5_length_12 : decode cX5_length 12 = .ok (.aload_n 0, 1) := by decide +kernel
theorem dX5_length_13 : decode cX5_length 13 = .ok (.getfield 75, 3) := by decide +kernel
theorem dX5_length_16 : decode cX5_length 16 = .ok (.iload_n 1, 1) := by decide +kernel
theorem dX5_length_17 : decode cX5_length 17 = .ok (.iaload, 1) := by decide +kernel
theorem dX5_length_18 : decode cX5_length 18 = .ok (.ifCond .ge 7, 3) := by decide +kernel
theorem dX5_length_21 : decode cX5_length 21 = .ok (.iconst (-1), 1) := by decide +kernel
theorem dX5_length_22 : decode cX5_length 22 = .ok (.goto 14, 3) := by decide +kernel
theorem dX5_length_25 : decode cX5_length 25 = .ok (.aload_n 0, 1) := by decide +kernel
theorem dX5_length_26 : decode cX5_length 26 = .ok (.getfield 81, 3) := by decide +kernel
theorem dX5_length_29 : decode cX5_length 29 = .ok (.aload_n 0, 1) := by decide +kernel
theorem dX5_length_30 : decode cX5_length 30 = .ok (.getfield 75, 3) := by decide +kernel
theorem dX5_length_33 : decode cX5_length 33 = .ok (.iload_n 1, 1) := by decide +kernel
theorem dX5_length_34 : decode cX5_length 34 = .ok (.iaload, 1) := by decide +kernel
theorem dX5_length_35 : decode cX5_length 35 = .ok (.iaload, 1) := by decide +kernel
theorem dX5_length_36 : decode cX5_length 36 = .ok (.ireturn, 1) := by decide +kernel
theorem dX5_same_0 : decode cX5_same 0 = .ok (.iload_n 1, 1) := by decide +kernel
theorem dX5_same_1 : decode cX5_same 1 = .ok (.invokestatic 115, 3) := by decide +kernel
theorem dX5_same_4 : decode cX5_same 4 = .ok (.ifCond .eq 10, 3) := by decide +kernel
theorem dX5_same_7 : decode cX5_same 7 = .ok (.iload_n 2, 1) := by decide +kernel
theorem dX5_same_8 : decode cX5_same 8 = .ok (.invokestatic 115, 3) := by decide +kernel
theorem dX5_same_11 : decode cX5_same 11 = .ok (.ifCond .ne 6, 3) := by decide +kernel
theorem dX5_same_14 : decode cX5_same 14 = .ok (.bipush (-2), 2) := by decide +kernel
theorem dX5_same_16 : decode cX5_same 16 = .ok (.ireturn, 1) := by decide +kernel
theorem dX5_same_17 : decode cX5_same 17 = .ok (.aload_n 0, 1) := by decide +kernel
theorem dX5_same_18 : decode cX5_same 18 = .ok (.getfield 99, 3) := by decide +kernel
theorem dX5_same_21 : decode cX5_same 21 = .ok (.ifCond .ne 8, 3) := by decide +kernel
theorem dX5_same_24 : decode cX5_same 24 = .ok (.bipush (-3), 2) := by decide +kernel
theorem dX5_same_26 : decode cX5_same 26 = .ok (.goto 23, 3) := by decide +kernel
theorem dX5_same_29 : decode cX5_same 29 = .ok (.aload_n 0, 1) := by decide +kernel
theorem dX5_same_30 : decode cX5_same 30 = .ok (.getfield 75, 3) := by decide +kernel
theorem dX5_same_33 : decode cX5_same 33 = .ok (.iload_n 1, 1) := by decide +kernel
theorem dX5_same_34 : decode cX5_same 34 = .ok (.iaload, 1) := by decide +kernel
theorem dX5_same_35 : decode cX5_same 35 = .ok (.aload_n 0, 1) := by decide +kernel
theorem dX5_same_36 : decode cX5_same 36 = .ok (.getfield 75, 3) := by decide +kernel
theorem dX5_same_39 : decode cX5_same 39 = .ok (.iload_n 2, 1) := by decide +kernel
theorem dX5_same_40 : decode cX5_same 40 = .ok (.iaload, 1) := by decide +kernel
theorem dX5_same_41 : decode cX5_same 41 = .ok (.if_icmp .ne 7, 3) := by decide +kernel
theorem dX5_same_44 : decode cX5_same 44 = .ok (.iconst 1, 1) := by decide +kernel
theorem dX5_same_45 : decode cX5_same 45 = .ok (.goto 4, 3) := by decide +kernel
theorem dX5_same_48 : decode cX5_same 48 = .ok (.iconst 0, 1) := by decide +kernel
theorem dX5_same_49 : decode cX5_same 49 = .ok (.ireturn, 1) := by decide +kernel
theorem dX5_isSo_0 : decode cX5_isSo 0 = .ok (.aload_n 0, 1) := by decide +kernel
theorem dX5_isSo_1 : decode cX5_isSo 1 = .ok (.getfield 75, 3) := by decide +kernel
theorem dX5_isSo_4 : decode cX5_isSo 4 = .ok (.iload_n 1, 1) := by decide +kernel
theorem dX5_isSo_5 : decode cX5_isSo 5 = .ok (.iaload, 1) := by decide +kernel
theorem dX5_isSo_6 : decode cX5_isSo 6 = .ok (.istore_n 2, 1) := by decide +kernel
theorem dX5_isSo_7 : decode cX5_isSo 7 = .ok (.iload_n 2, 1) := by decide +kernel
theorem dX5_isSo_8 : decode cX5_isSo 8 = .ok (.ifCond .ge 10, 3) := by decide +kernel
theorem dX5_isSo_11 : decode cX5_isSo 11 = .ok (.aload_n 0, 1) := by decide +kernel
theorem dX5_isSo_12 : decode cX5_isSo 12 = .ok (.getfield 45, 3) := by decide +kernel
theorem dX5_isSo_15 : decode cX5_isSo 15 = .ok (.iload_n 1, 1) := by decide +kernel
theorem dX5_isSo_16 : decode cX5_isSo 16 = .ok (.baload, 1) := by decide +kernel
theorem dX5_isSo_17 : decode cX5_isSo 17 = .ok (.ireturn, 1) := by decide +kernel
theorem dX5_isSo_18 : decode cX5_isSo 18 = .ok (.aload_n 0, 1) := by decide +kernel
theorem dX5_isSo_19 : decode cX5_isSo 19 = .ok (.iload_n 1, 1) := by decide +kernel
theorem dX5_isSo_20 : decode cX5_isSo 20 = .ok (.iload_n 2, 1) := by decide +kernel
theorem dX5_isSo_21 : decode cX5_isSo 21 = .ok (.invokevirtual 169, 3) := by decide +kernel
theorem dX5_isSo_24 : decode cX5_isSo 24 = .ok (.ifCond .eq 60, 3) := by decide +kernel
theorem dX5_isSo_27 : decode cX5_isSo 27 = .ok (.aload_n 0, 1) := by decide +kernel
theorem dX5_isSo_28 : decode cX5_isSo 28 = .ok (.getfield 51, 3) := by decide +kernel
theorem dX5_isSo_31 : decode cX5_isSo 31 = .ok (.iload_n 2, 1) := by decide +kernel
theorem dX5_isSo_32 : decode cX5_isSo 32 = .ok (.iaload, 1) := by decide +kernel
theorem dX5_isSo_33 : decode cX5_isSo 33 = .ok (.aload_n 0, 1) := by decide +kernel
theorem dX5_isSo_34 : decode cX5_isSo 34 = .ok (.getfield 78, 3) := by decide +kernel
theorem dX5_isSo_37 : decode cX5_isSo 37 = .ok (.iload_n 2, 1) := by decide +kernel
theorem dX5_isSo_38 : decode cX5_isSo 38 = .ok (.iaload, 1) := by decide +kernel
theorem dX5_isSo_39 : decode cX5_isSo 39 = .ok (.ishr, 1) := by decide +kernel
theorem dX5_isSo_40 : decode cX5_isSo 40 = .ok (.iconst 1, 1) := by decide +kernel
theorem dX5_isSo_41 : decode cX5_isSo 41 = .ok (.iand, 1) := by decide +kernel
theorem dX5_isSo_42 : decode cX5_isSo 42 = .ok (.iconst 1, 1) := by decide +kernel
theorem dX5_isSo_43 : decode cX5_isSo 43 = .ok (.if_icmp .ne 41, 3) := by decide +kernel
theorem dX5_isSo_46 : decode cX5_isSo 46 = .ok (.aload_n 0, 1) := by decide +kernel
theorem dX5_isSo_47 : decode cX5_isSo 47 = .ok (.getfield 81, 3) := by decide +kernel
theorem dX5_isSo_50 : decode cX5_isSo 50 = .ok (.iload_n 2, 1) := by decide +kernel
theorem dX5_isSo_51 : decode cX5_isSo 51 = .ok (.iaload, 1) := by decide +kernel
theorem dX5_isSo_52 : decode cX5_isSo 52 = .ok (.i2l, 1) := by decide +kernel
theorem dX5_isSo_53 : decode cX5_isSo 53 = .ok (.aload_n 0, 1) := by decide +kernel
theorem dX5_isSo_54 : decode cX5_isSo 54 = .ok (.getfield 54, 3) := by decide +kernel
theorem dX5_isSo_57 : decode cX5_isSo 57 = .ok (.iload_n 2, 1) := by decide +kernel
theorem dX5_isSo_58 : decode cX5_isSo 58 = .ok (.laload, 1) := by decide +kernel
theorem dX5_isSo_59 : decode cX5_isSo 59 = .ok (.lcmp, 1) := by decide +kernel
theorem dX5_isSo_60 : decode cX5_isSo 60 = .ok (.ifCond .lt 24, 3) := by decide +kernel
theorem dX5_isSo_63 : decode cX5_isSo 63 = .ok (.aload_n 0, 1) := by decide +kernel
theorem dX5_isSo_64 : decode cX5_isSo 64 = .ok (.getfield 81, 3) := by decide +kernel
theorem dX5_isSo_67 : decode cX5_isSo 67 = .ok (.iload_n 2, 1) := by decide +kernel
theorem dX5_isSo_68 : decode cX5_isSo 68 = .ok (.iaload, 1) := by decide +kernel
theorem dX5_isSo_69 : decode cX5_isSo 69 = .ok (.i2l, 1) := by decide +kernel
theorem dX5_isSo_70 : decode cX5_isSo 70 = .ok (.aload_n 0, 1) := by decide +kernel
theorem dX5_isSo_71 : decode cX5_isSo 71 = .ok (.getfield 57, 3) := by decide +kernel
theorem dX5_isSo_74 : decode cX5_isSo 74 = .ok (.iload_n 2, 1) := by decide +kernel
theorem dX5_isSo_75 : decode cX5_isSo 75 = .ok (.laload, 1) := by decide +kernel
theorem dX5_isSo_76 : decode cX5_isSo 76 = .ok (.lcmp, 1) := by decide +kernel
theorem dX5_isSo_77 : decode cX5_isSo 77 = .ok (.ifCond .gt 7, 3) := by decide +kernel
theorem dX5_isSo_80 : decode cX5_isSo 80 = .ok (.iconst 1, 1) := by decide +kernel
theorem dX5_isSo_81 : decode cX5_isSo 81 = .ok (.goto 4, 3) := by decide +kernel
theorem dX5_isSo_84 : decode cX5_isSo 84 = .ok (.iconst 0, 1) := by decide +kernel
theorem dX5_isSo_85 : decode cX5_isSo 85 = .ok (.istore_n 3, 1) := by decide +kernel
theorem dX5_isSo_86 : decode cX5_isSo 86 = .ok (.iconst 0, 1) := by decide +kernel
theorem dX5_isSo_87 : decode cX5_isSo 87 = .ok (.istore 4, 2) := by decide +kernel
theorem dX5_isSo_89 : decode cX5_isSo 89 = .ok (.iload 4, 2) := by decide +kernel
theorem dX5_isSo_91 : decode cX5_isSo 91 = .ok (.aload_n 0, 1) := by decide +kernel
theorem dX5_isSo_92 : decode cX5_isSo 92 = .ok (.getfield 81, 3) := by decide +kernel
theorem dX5_isSo_95 : decode cX5_isSo 95 = .ok (.iload_n 2, 1) := by decide +kernel
theorem dX5_isSo_96 : decode cX5_isSo 96 = .ok (.iaload, 1) := by decide +kernel
theorem dX5_isSo_97 : decode cX5_isSo 97 = .ok (.if_icmp .ge 71, 3) := by decide +kernel
theorem dX5_isSo_100 : decode cX5_isSo 100 = .ok (.iload_n 3, 1) := by decide +kernel
theorem dX5_isSo_101 : decode cX5_isSo 101 = .ok (.ifCond .eq 67, 3) := by decide +kernel
theorem dX5_isSo_104 : decode cX5_isSo 104 = .ok (.aload_n 0, 1) := by decide +kernel
theorem dX5_isSo_105 : decode cX5_isSo 105 = .ok (.getfield 84, 3) := by decide +kernel
theorem dX5_isSo_108 : decode cX5_isSo 108 = .ok (.bipush 12, 2) := by decide +kernel
theorem dX5_isSo_110 : decode cX5_isSo 110 = .ok (.iload_n 2, 1) := by decide +kernel
theorem dX5_isSo_111 : decode cX5_isSo 111 = .ok (.imul, 1) := by decide +kernel
theorem dX5_isSo_112 : decode cX5_isSo 112 = .ok (.iload 4, 2) := by decide +kernel
theorem dX5_isSo_114 : decode cX5_isSo 114 = .ok (.iadd, 1) := by decide +kernel
theorem dX5_isSo_115 : decode cX5_isSo 115 = .ok (.iaload, 1) := by decide +kernel
theorem dX5_isSo_116 : decode cX5_isSo 116 = .ok (.istore 5, 2) := by decide +kernel
theorem dX5_isSo_118 : decode cX5_isSo 118 = .ok (.iload 5, 2) := by decide +kernel
theorem dX5_isSo_120 : decode cX5_isSo 120 = .ok (.i2l, 1) := by decide +kernel
theorem dX5_isSo_121 : decode cX5_isSo 121 = .ok (.aload_n 0, 1) := by decide +kernel
theorem dX5_isSo_122 : decode cX5_isSo 122 = .ok (.getfield 60, 3) := by decide +kernel
theorem dX5_isSo_125 : decode cX5_isSo 125 = .ok (.bipush 12, 2) := by decide +kernel
theorem dX5_isSo_127 : decode cX5_isSo 127 = .ok (.iload_n 2, 1) := by decide +kernel
theorem dX5_isSo_128 : decode cX5_isSo 128 = .ok (.imul, 1) := by decide +kernel
theorem dX5_isSo_129 : decode cX5_isSo 129 = .ok (.iload 4, 2) := by decide +kernel
theorem dX5_isSo_131 : decode cX5_isSo 131 = .ok (.iadd, 1) := by decide +kernel
theorem dX5_isSo_132 : decode cX5_isSo 132 = .ok (.laload, 1) := by decide +kernel
theorem dX5_isSo_133 : decode cX5_isSo 133 = .ok (.lcmp, 1) := by decide +kernel
theorem dX5_isSo_134 : decode cX5_isSo 134 = .ok (.ifCond .lt 26, 3) := by decide +kernel
theorem dX5_isSo_137 : decode cX5_isSo 137 = .ok (.iload 5, 2) := by decide +kernel
theorem dX5_isSo_139 : decode cX5_isSo 139 = .ok (.i2l, 1) := by decide +kernel
theorem dX5_isSo_140 : decode cX5_isSo 140 = .ok (.aload_n 0, 1) := by decide +kernel
theorem dX5_isSo_141 : decode cX5_isSo 141 = .ok (.getfield 63, 3) := by decide +kernel
theorem dX5_isSo_144 : decode cX5_isSo 144 = .ok (.bipush 12, 2) := by decide +kernel
theorem dX5_isSo_146 : decode cX5_isSo 146 = .ok (.iload_n 2, 1) := by decide +kernel
theorem dX5_isSo_147 : decode cX5_isSo 147 = .ok (.imul, 1) := by decide +kernel
theorem dX5_isSo_148 : decode cX5_isSo 148 = .ok (.iload 4, 2) := by decide +kernel
theorem dX5_isSo_150 : decode cX5_isSo 150 = .ok (.iadd, 1) := by decide +kernel
theorem dX5_isSo_151 : decode cX5_isSo 151 = .ok (.laload, 1) := by decide +kernel
theorem dX5_isSo_152 : decode cX5_isSo 152 = .ok (.lcmp, 1) := by decide +kernel
theorem dX5_isSo_153 : decode cX5_isSo 153 = .ok (.ifCond .gt 7, 3) := by decide +kernel
theorem dX5_isSo_156 : decode cX5_isSo 156 = .ok (.iconst 1, 1) := by decide +kernel
theorem dX5_isSo_157 : decode cX5_isSo 157 = .ok (.goto 4, 3) := by decide +kernel
theorem dX5_isSo_160 : decode cX5_isSo 160 = .ok (.iconst 0, 1) := by decide +kernel
theorem dX5_isSo_161 : decode cX5_isSo 161 = .ok (.istore_n 3, 1) := by decide +kernel
theorem dX5_isSo_162 : decode cX5_isSo 162 = .ok (.iinc 4 1, 3) := by decide +kernel
theorem dX5_isSo_165 : decode cX5_isSo 165 = .ok (.goto (-76), 3) := by decide +kernel
theorem dX5_isSo_168 : decode cX5_isSo 168 = .ok (.iload_n 3, 1) := by decide +kernel
theorem dX5_isSo_169 : decode cX5_isSo 169 = .ok (.ireturn, 1) := by decide +kernel
theorem dX5_holds_0 : decode cX5_holds 0 = .ok (.aload_n 0, 1) := by decide +kernel
theorem dX5_holds_1 : decode cX5_holds 1 = .ok (.lload_n 1, 1) := by decide +kernel
theorem dX5_holds_2 : decode cX5_holds 2 = .ok (.invokevirtual 318, 3) := by decide +kernel
theorem dX5_holds_5 : decode cX5_holds 5 = .ok (.istore_n 3, 1) := by decide +kernel
theorem dX5_holds_6 : decode cX5_holds 6 = .ok (.aload_n 0, 1) := by decide +kernel
theorem dX5_holds_7 : decode cX5_holds 7 = .ok (.invokevirtual 253, 3) := by decide +kernel
theorem dX5_holds_10 : decode cX5_holds 10 = .ok (.iload_n 3, 1) := by decide +kernel
theorem dX5_holds_11 : decode cX5_holds 11 = .ok (.ifCond .le 38, 3) := by decide +kernel
theorem dX5_holds_14 : decode cX5_holds 14 = .ok (.aload_n 0, 1) := by decide +kernel
theorem dX5_holds_15 : decode cX5_holds 15 = .ok (.getfield 66, 3) := by decide +kernel
theorem dX5_holds_18 : decode cX5_holds 18 = .ok (.aload_n 0, 1) := by decide +kernel
theorem dX5_holds_19 : decode cX5_holds 19 = .ok (.getfield 107, 3) := by decide +kernel
theorem dX5_holds_22 : decode cX5_holds 22 = .ok (.baload, 1) := by decide +kernel
theorem dX5_holds_23 : decode cX5_holds 23 = .ok (.ifCond .eq 24, 3) := by decide +kernel
theorem dX5_holds_26 : decode cX5_holds 26 = .ok (.aload_n 0, 1) := by decide +kernel
theorem dX5_holds_27 : decode cX5_holds 27 = .ok (.getfield 69, 3) := by decide +kernel
theorem dX5_holds_30 : decode cX5_holds 30 = .ok (.aload_n 0, 1) := by decide +kernel
theorem dX5_holds_31 : decode cX5_holds 31 = .ok (.getfield 107, 3) := by decide +kernel
theorem dX5_holds_34 : decode cX5_holds 34 = .ok (.iaload, 1) := by decide +kernel
theorem dX5_holds_35 : decode cX5_holds 35 = .ok (.iload_n 3, 1) := by decide +kernel
theorem dX5_holds_36 : decode cX5_holds 36 = .ok (.ishr, 1) := by decide +kernel
theorem dX5_holds_37 : decode cX5_holds 37 = .ok (.iconst 1, 1) := by decide +kernel
theorem dX5_holds_38 : decode cX5_holds 38 = .ok (.iand, 1) := by decide +kernel
theorem dX5_holds_39 : decode cX5_holds 39 = .ok (.iconst 1, 1) := by decide +kernel
theorem dX5_holds_40 : decode cX5_holds 40 = .ok (.if_icmp .ne 7, 3) := by decide +kernel
theorem dX5_holds_43 : decode cX5_holds 43 = .ok (.iconst 1, 1) := by decide +kernel
theorem dX5_holds_44 : decode cX5_holds 44 = .ok (.goto 4, 3) := by decide +kernel
theorem dX5_holds_47 : decode cX5_holds 47 = .ok (.iconst 0, 1) := by decide +kernel
theorem dX5_holds_48 : decode cX5_holds 48 = .ok (.ireturn, 1) := by decide +kernel
theorem dX5_holds_49 : decode cX5_holds 49 = .ok (.aload_n 0, 1) := by decide +kernel
theorem dX5_holds_50 : decode cX5_holds 50 = .ok (.getfield 32, 3) := by decide +kernel
theorem dX5_holds_53 : decode cX5_holds 53 = .ok (.iconst 0, 1) := by decide +kernel
theorem dX5_holds_54 : decode cX5_holds 54 = .ok (.baload, 1) := by decide +kernel
theorem dX5_holds_55 : decode cX5_holds 55 = .ok (.istore 4, 2) := by decide +kernel
theorem dX5_holds_57 : decode cX5_holds 57 = .ok (.iconst 0, 1) := by decide +kernel
theorem dX5_holds_58 : decode cX5_holds 58 = .ok (.istore 5, 2) := by decide +kernel
theorem dX5_holds_60 : decode cX5_holds 60 = .ok (.iload 5, 2) := by decide +kernel
theorem dX5_holds_62 : decode cX5_holds 62 = .ok (.bipush 6, 2) := by decide +kernel
theorem dX5_holds_64 : decode cX5_holds 64 = .ok (.if_icmp .ge 68, 3) := by decide +kernel
theorem dX5_holds_67 : decode cX5_holds 67 = .ok (.iload 4, 2) := by decide +kernel
theorem dX5_holds_69 : decode cX5_holds 69 = .ok (.ifCond .eq 63, 3) := by decide +kernel
theorem dX5_holds_72 : decode cX5_holds 72 = .ok (.aload_n 0, 1) := by decide +kernel
theorem dX5_holds_73 : decode cX5_holds 73 = .ok (.getfield 72, 3) := by decide +kernel
theorem dX5_holds_76 : decode cX5_holds 76 = .ok (.iload 5, 2) := by decide +kernel
theorem dX5_holds_78 : decode cX5_holds 78 = .ok (.iaload, 1) := by decide +kernel
theorem dX5_holds_79 : decode cX5_holds 79 = .ok (.i2l, 1) := by decide +kernel
theorem dX5_holds_80 : decode cX5_holds 80 = .ok (.aload_n 0, 1) := by decide +kernel
theorem dX5_holds_81 : decode cX5_holds 81 = .ok (.getfield 35, 3) := by decide +kernel
theorem dX5_holds_84 : decode cX5_holds 84 = .ok (.iload 5, 2) := by decide +kernel
theorem dX5_holds_86 : decode cX5_holds 86 = .ok (.laload, 1) := by decide +kernel
theorem dX5_holds_87 : decode cX5_holds 87 = .ok (.lcmp, 1) := by decide +kernel
theorem dX5_holds_88 : decode cX5_holds 88 = .ok (.ifCond .lt 35, 3) := by decide +kernel
theorem dX5_holds_91 : decode cX5_holds 91 = .ok (.aload_n 0, 1) := by decide +kernel
theorem dX5_holds_92 : decode cX5_holds 92 = .ok (.getfield 72, 3) := by decide +kernel
theorem dX5_holds_95 : decode cX5_holds 95 = .ok (.iload 5, 2) := by decide +kernel
theorem dX5_holds_97 : decode cX5_holds 97 = .ok (.iaload, 1) := by decide +kernel
theorem dX5_holds_98 : decode cX5_holds 98 = .ok (.i2l, 1) := by decide +kernel
theorem dX5_holds_99 : decode cX5_holds 99 = .ok (.aload_n 0, 1) := by decide +kernel
theorem dX5_holds_100 : decode cX5_holds 100 = .ok (.getfield 39, 3) := by decide +kernel
theorem dX5_holds_103 : decode cX5_holds 103 = .ok (.iload 5, 2) := by decide +kernel
theorem dX5_holds_105 : decode cX5_holds 105 = .ok (.laload, 1) := by decide +kernel
theorem dX5_holds_106 : decode cX5_holds 106 = .ok (.lcmp, 1) := by decide +kernel
theorem dX5_holds_107 : decode cX5_holds 107 = .ok (.ifCond .gt 16, 3) := by decide +kernel
theorem dX5_holds_110 : decode cX5_holds 110 = .ok (.aload_n 0, 1) := by decide +kernel
theorem dX5_holds_111 : decode cX5_holds 111 = .ok (.iload 5, 2) := by decide +kernel
theorem dX5_holds_113 : decode cX5_holds 113 = .ok (.invokevirtual 321, 3) := by decide +kernel
theorem dX5_holds_116 : decode cX5_holds 116 = .ok (.ifCond .eq 7, 3) := by decide +kernel
theorem dX5_holds_119 : decode cX5_holds 119 = .ok (.iconst 1, 1) := by decide +kernel
theorem dX5_holds_120 : decode cX5_holds 120 = .ok (.goto 4, 3) := by decide +kernel
theorem dX5_holds_123 : decode cX5_holds 123 = .ok (.iconst 0, 1) := by decide +kernel
theorem dX5_holds_124 : decode cX5_holds 124 = .ok (.istore 4, 2) := by decide +kernel
theorem dX5_holds_126 : decode cX5_holds 126 = .ok (.iinc 5 1, 3) := by decide +kernel
theorem dX5_holds_129 : decode cX5_holds 129 = .ok (.goto (-69), 3) := by decide +kernel
theorem dX5_holds_132 : decode cX5_holds 132 = .ok (.iload 4, 2) := by decide +kernel
theorem dX5_holds_134 : decode cX5_holds 134 = .ok (.ifCond .eq 7, 3) := by decide +kernel
theorem dX5_holds_137 : decode cX5_holds 137 = .ok (.iconst 1, 1) := by decide +kernel
theorem dX5_holds_138 : decode cX5_holds 138 = .ok (.goto 4, 3) := by decide +kernel
theorem dX5_holds_141 : decode cX5_holds 141 = .ok (.iconst 0, 1) := by decide +kernel
theorem dX5_holds_142 : decode cX5_holds 142 = .ok (.ireturn, 1) := by decide +kernel
theorem dX5_told_0 : decode cX5_told 0 = .ok (.iload_n 1, 1) := by decide +kernel
theorem dX5_told_1 : decode cX5_told 1 = .ok (.ifCond .lt 8, 3) := by decide +kernel
theorem dX5_told_4 : decode cX5_told 4 = .ok (.iload_n 1, 1) := by decide +kernel
theorem dX5_told_5 : decode cX5_told 5 = .ok (.iconst 4, 1) := by decide +kernel
theorem dX5_told_6 : decode cX5_told 6 = .ok (.if_icmp .le 6, 3) := by decide +kernel
theorem dX5_told_9 : decode cX5_told 9 = .ok (.bipush (-2), 2) := by decide +kernel
theorem dX5_told_11 : decode cX5_told 11 = .ok (.ireturn, 1) := by decide +kernel
theorem dX5_told_12 : decode cX5_told 12 = .ok (.aload_n 0, 1) := by decide +kernel
theorem dX5_told_13 : decode cX5_told 13 = .ok (.invokevirtual 253, 3) := by decide +kernel
theorem dX5_told_16 : decode cX5_told 16 = .ok (.iconst 0, 1) := by decide +kernel
theorem dX5_told_17 : decode cX5_told 17 = .ok (.istore_n 2, 1) := by decide +kernel
theorem dX5_told_18 : decode cX5_told 18 = .ok (.iconst 0, 1) := by decide +kernel
theorem dX5_told_19 : decode cX5_told 19 = .ok (.istore_n 3, 1) := by decide +kernel
theorem dX5_told_20 : decode cX5_told 20 = .ok (.iload_n 3, 1) := by decide +kernel
theorem dX5_told_21 : decode cX5_told 21 = .ok (.aload_n 0, 1) := by decide +kernel
theorem dX5_told_22 : decode cX5_told 22 = .ok (.getfield 110, 3) := by decide +kernel
theorem dX5_told_25 : decode cX5_told 25 = .ok (.if_icmp .ge 101, 3) := by decide +kernel
theorem dX5_told_28 : decode cX5_told 28 = .ok (.iload_n 2, 1) := by decide +kernel
theorem dX5_told_29 : decode cX5_told 29 = .ok (.iload_n 1, 1) := by decide +kernel
theorem dX5_told_30 : decode cX5_told 30 = .ok (.iconst 1, 1) := by decide +kernel
theorem dX5_told_31 : decode cX5_told 31 = .ok (.if_icmp .ne 20, 3) := by decide +kernel
theorem dX5_told_34 : decode cX5_told 34 = .ok (.aload_n 0, 1) := by decide +kernel
theorem dX5_told_35 : decode cX5_told 35 = .ok (.getfield 28, 3) := by decide +kernel
theorem dX5_told_38 : decode cX5_told 38 = .ok (.iload_n 3, 1) := by decide +kernel
theorem dX5_told_39 : decode cX5_told 39 = .ok (.baload, 1) := by decide +kernel
theorem dX5_told_40 : decode cX5_told 40 = .ok (.ifCond .eq 7, 3) := by decide +kernel
theorem dX5_told_43 : decode cX5_told 43 = .ok (.iconst 0, 1) := by decide +kernel
theorem dX5_told_44 : decode cX5_told 44 = .ok (.goto 74, 3) := by decide +kernel
theorem dX5_told_47 : decode cX5_told 47 = .ok (.iconst 1, 1) := by decide +kernel
theorem dX5_told_48 : decode cX5_told 48 = .ok (.goto 70, 3) := by decide +kernel
theorem dX5_told_51 : decode cX5_told 51 = .ok (.iload_n 1, 1) := by decide +kernel
theorem dX5_told_52 : decode cX5_told 52 = .ok (.iconst 2, 1) := by decide +kernel
theorem dX5_told_53 : decode cX5_told 53 = .ok (.if_icmp .ne 20, 3) := by decide +kernel
theorem dX5_told_56 : decode cX5_told 56 = .ok (.aload_n 0, 1) := by decide +kernel
theorem dX5_told_57 : decode cX5_told 57 = .ok (.getfield 66, 3) := by decide +kernel
theorem dX5_told_60 : decode cX5_told 60 = .ok (.iload_n 3, 1) := by decide +kernel
theorem dX5_told_61 : decode cX5_told 61 = .ok (.baload, 1) := by decide +kernel
theorem dX5_told_62 : decode cX5_told 62 = .ok (.ifCond .eq 7, 3) := by decide +kernel
theorem dX5_told_65 : decode cX5_told 65 = .ok (.iconst 1, 1) := by decide +kernel
theorem dX5_told_66 : decode cX5_told 66 = .ok (.goto 52, 3) := by decide +kernel
theorem dX5_told_69 : decode cX5_told 69 = .ok (.iconst 0, 1) := by decide +kernel
theorem dX5_told_70 : decode cX5_told 70 = .ok (.goto 48, 3) := by decide +kernel
theorem dX5_told_73 : decode cX5_told 73 = .ok (.iload_n 1, 1) := by decide +kernel
theorem dX5_told_74 : decode cX5_told 74 = .ok (.iconst 3, 1) := by decide +kernel
theorem dX5_told_75 : decode cX5_told 75 = .ok (.if_icmp .ne 20, 3) := by decide +kernel
theorem dX5_told_78 : decode cX5_told 78 = .ok (.aload_n 0, 1) := by decide +kernel
theorem dX5_told_79 : decode cX5_told 79 = .ok (.getfield 69, 3) := by decide +kernel
theorem dX5_told_82 : decode cX5_told 82 = .ok (.iload_n 3, 1) := by decide +kernel
theorem dX5_told_83 : decode cX5_told 83 = .ok (.iaload, 1) := by decide +kernel
theorem dX5_told_84 : decode cX5_told 84 = .ok (.ifCond .eq 7, 3) := by decide +kernel
theorem dX5_told_87 : decode cX5_told 87 = .ok (.iconst 1, 1) := by decide +kernel
theorem dX5_told_88 : decode cX5_told 88 = .ok (.goto 30, 3) := by decide +kernel
theorem dX5_told_91 : decode cX5_told 91 = .ok (.iconst 0, 1) := by decide +kernel
theorem dX5_told_92 : decode cX5_told 92 = .ok (.goto 26, 3) := by decide +kernel
theorem dX5_told_95 : decode cX5_told 95 = .ok (.aload_n 0, 1) := by decide +kernel
theorem dX5_told_96 : decode cX5_told 96 = .ok (.getfield 32, 3) := by decide +kernel
theorem dX5_told_99 : decode cX5_told 99 = .ok (.iconst 0, 1) := by decide +kernel
theorem dX5_told_100 : decode cX5_told 100 = .ok (.baload, 1) := by decide +kernel
theorem dX5_told_101 : decode cX5_told 101 = .ok (.ifCond .eq 16, 3) := by decide +kernel
theorem dX5_told_104 : decode cX5_told 104 = .ok (.aload_n 0, 1) := by decide +kernel
theorem dX5_told_105 : decode cX5_told 105 = .ok (.getfield 48, 3) := by decide +kernel
theorem dX5_told_108 : decode cX5_told 108 = .ok (.iload_n 3, 1) := by decide +kernel
theorem dX5_told_109 : decode cX5_told 109 = .ok (.baload, 1) := by decide +kernel
theorem dX5_told_110 : decode cX5_told 110 = .ok (.ifCond .eq 7, 3) := by decide +kernel
theorem dX5_told_113 : decode cX5_told 113 = .ok (.iconst 1, 1) := by decide +kernel
theorem dX5_told_114 : decode cX5_told 114 = .ok (.goto 4, 3) := by decide +kernel
theorem dX5_told_117 : decode cX5_told 117 = .ok (.iconst 0, 1) := by decide +kernel
theorem dX5_told_118 : decode cX5_told 118 = .ok (.iadd, 1) := by decide +kernel
theorem dX5_told_119 : decode cX5_told 119 = .ok (.istore_n 2, 1) := by decide +kernel
theorem dX5_told_120 : decode cX5_told 120 = .ok (.iinc 3 1, 3) := by decide +kernel
theorem dX5_told_123 : decode cX5_told 123 = .ok (.goto (-103), 3) := by decide +kernel
theorem dX5_told_126 : decode cX5_told 126 = .ok (.iload_n 1, 1) := by decide +kernel
theorem dX5_told_127 : decode cX5_told 127 = .ok (.ifCond .ne 10, 3) := by decide +kernel
theorem dX5_told_130 : decode cX5_told 130 = .ok (.aload_n 0, 1) := by decide +kernel
theorem dX5_told_131 : decode cX5_told 131 = .ok (.getfield 110, 3) := by decide +kernel
theorem dX5_told_134 : decode cX5_told 134 = .ok (.goto 4, 3) := by decide +kernel
theorem dX5_told_137 : decode cX5_told 137 = .ok (.iload_n 2, 1) := by decide +kernel
theorem dX5_told_138 : decode cX5_told 138 = .ok (.ireturn, 1) := by decide +kernel
end
section
theorem dL_law_0 : decode cL_law 0 = .ok (.new 7, 3) := by decide +kernel
theorem dL_law_3 : decode cL_law 3 = .ok (.dup, 1) := by decide +kernel
theorem dL_law_4 : decode cL_law 4 = .ok (.invokespecial 9, 3) := by decide +kernel
theorem dL_law_7 : decode cL_law 7 = .ok (.astore_n 1, 1) := by decide +kernel
theorem dL_law_8 : decode cL_law 8 = .ok (.new 10, 3) := by decide +kernel
theorem dL_law_11 : decode cL_law 11 = .ok (.dup, 1) := by decide +kernel
theorem dL_law_12 : decode cL_law 12 = .ok (.invokespecial 12, 3) := by decide +kernel
theorem dL_law_15 : decode cL_law 15 = .ok (.astore_n 2, 1) := by decide +kernel
theorem dL_law_16 : decode cL_law 16 = .ok (.iconst 0, 1) := by decide +kernel
theorem dL_law_17 : decode cL_law 17 = .ok (.istore_n 3, 1) := by decide +kernel
theorem dL_law_18 : decode cL_law 18 = .ok (.iload_n 3, 1) := by decide +kernel
theorem dL_law_19 : decode cL_law 19 = .ok (.aload_n 0, 1) := by decide +kernel
theorem dL_law_20 : decode cL_law 20 = .ok (.arraylength, 1) := by decide +kernel
theorem dL_law_21 : decode cL_law 21 = .ok (.bipush 7, 2) := by decide +kernel
theorem dL_law_23 : decode cL_law 23 = .ok (.isub, 1) := by decide +kernel
theorem dL_law_24 : decode cL_law 24 = .ok (.if_icmp .gt 712, 3) := by decide +kernel
theorem dL_law_27 : decode cL_law 27 = .ok (.aload_n 0, 1) := by decide +kernel
theorem dL_law_28 : decode cL_law 28 = .ok (.iload_n 3, 1) := by decide +kernel
theorem dL_law_29 : decode cL_law 29 = .ok (.iaload, 1) := by decide +kernel
theorem dL_law_30 : decode cL_law 30 = .ok (.bipush 31, 2) := by decide +kernel
theorem dL_law_32 : decode cL_law 32 = .ok (.iand, 1) := by decide +kernel
theorem dL_law_33 : decode cL_law 33 = .ok (.tableswitch 697 0 19 #[95, 108, 183, 206, 229, 252, 265, 298, 321, 354, 387, 430, 443, 496, 509, 532, 565, 588, 621, 674], 95) := by decide +kernel
theorem dL_law_128 : decode cL_law 128 = .ok (.aload_n 1, 1) := by decide +kernel
theorem dL_law_129 : decode cL_law 129 = .ok (.invokevirtual 13, 3) := by decide +kernel
theorem dL_law_132 : decode cL_law 132 = .ok (.aload_n 2, 1) := by decide +kernel
theorem dL_law_133 : decode cL_law 133 = .ok (.invokevirtual 17, 3) := by decide +kernel
theorem dL_law_136 : decode cL_law 136 = .ok (.if_icmp .eq 594, 3) := by decide +kernel
theorem dL_law_139 : decode cL_law 139 = .ok (.iconst 0, 1) := by decide +kernel
theorem dL_law_140 : decode cL_law 140 = .ok (.ireturn, 1) := by decide +kernel
theorem dL_law_141 : decode cL_law 141 = .ok (.aload_n 1, 1) := by decide +kernel
theorem dL_law_142 : decode cL_law 142 = .ok (.aload_n 0, 1) := by decide +kernel
theorem dL_law_143 : decode cL_law 143 = .ok (.iload_n 3, 1) := by decide +kernel
theorem dL_law_144 : decode cL_law 144 = .ok (.iconst 1, 1) := by decide +kernel
theorem dL_law_145 : decode cL_law 145 = .ok (.iadd, 1) := by decide +kernel
theorem dL_law_146 : decode cL_law 146 = .ok (.iaload, 1) := by decide +kernel
theorem dL_law_147 : decode cL_law 147 = .ok (.aload_n 0, 1) := by decide +kernel
theorem dL_law_148 : decode cL_law 148 = .ok (.iload_n 3, 1) := by decide +kernel
theorem dL_law_149 : decode cL_law 149 = .ok (.iconst 2, 1) := by decide +kernel
theorem dL_law_150 : decode cL_law 150 = .ok (.iadd, 1) := by decide +kernel
theorem dL_law_151 : decode cL_law 151 = .ok (.iaload, 1) := by decide +kernel
theorem dL_law_152 : decode cL_law 152 = .ok (.aload_n 0, 1) := by decide +kernel
theorem dL_law_153 : decode cL_law 153 = .ok (.iload_n 3, 1) := by decide +kernel
theorem dL_law_154 : decode cL_law 154 = .ok (.iconst 3, 1) := by decide +kernel
theorem dL_law_155 : decode cL_law 155 = .ok (.iadd, 1) := by decide +kernel
theorem dL_law_156 : decode cL_law 156 = .ok (.iaload, 1) := by decide +kernel
theorem dL_law_157 : decode cL_law 157 = .ok (.aload_n 0, 1) := by decide +kernel
theorem dL_law_158 : decode cL_law 158 = .ok (.iload_n 3, 1) := by decide +kernel
theorem dL_law_159 : decode cL_law 159 = .ok (.iconst 4, 1) := by decide +kernel
theorem dL_law_160 : decode cL_law 160 = .ok (.iadd, 1) := by decide +kernel
theorem dL_law_161 : decode cL_law 161 = .ok (.iaload, 1) := by decide +kernel
theorem dL_law_162 : decode cL_law 162 = .ok (.aload_n 0, 1) := by decide +kernel
theorem dL_law_163 : decode cL_law 163 = .ok (.iload_n 3, 1) := by decide +kernel
theorem dL_law_164 : decode cL_law 164 = .ok (.iconst 5, 1) := by decide +kernel
theorem dL_law_165 : decode cL_law 165 = .ok (.iadd, 1) := by decide +kernel
theorem dL_law_166 : decode cL_law 166 = .ok (.iaload, 1) := by decide +kernel
theorem dL_law_167 : decode cL_law 167 = .ok (.aload_n 0, 1) := by decide +kernel
theorem dL_law_168 : decode cL_law 168 = .ok (.iload_n 3, 1) := by decide +kernel
theorem dL_law_169 : decode cL_law 169 = .ok (.bipush 6, 2) := by decide +kernel
theorem dL_law_171 : decode cL_law 171 = .ok (.iadd, 1) := by decide +kernel
theorem dL_law_172 : decode cL_law 172 = .ok (.iaload, 1) := by decide +kernel
theorem dL_law_173 : decode cL_law 173 = .ok (.invokevirtual 18, 3) := by decide +kernel
theorem dL_law_176 : decode cL_law 176 = .ok (.aload_n 2, 1) := by decide +kernel
theorem dL_law_177 : decode cL_law 177 = .ok (.aload_n 0, 1) := by decide +kernel
theorem dL_law_178 : decode cL_law 178 = .ok (.iload_n 3, 1) := by decide +kernel
theorem dL_law_179 : decode cL_law 179 = .ok (.iconst 1, 1) := by decide +kernel
theorem dL_law_180 : decode cL_law 180 = .ok (.iadd, 1) := by decide +kernel
theorem dL_law_181 : decode cL_law 181 = .ok (.iaload, 1) := by decide +kernel
theorem dL_law_182 : decode cL_law 182 = .ok (.aload_n 0, 1) := by decide +kernel
theorem dL_law_183 : decode cL_law 183 = .ok (.iload_n 3, 1) := by decide +kernel
theorem dL_law_184 : decode cL_law 184 = .ok (.iconst 2, 1) := by decide +kernel
theorem dL_law_185 : decode cL_law 185 = .ok (.iadd, 1) := by decide +kernel
theorem dL_law_186 : decode cL_law 186 = .ok (.iaload, 1) := by decide +kernel
theorem dL_law_187 : decode cL_law 187 = .ok (.aload_n 0, 1) := by decide +kernel
theorem dL_law_188 : decode cL_law 188 = .ok (.iload_n 3, 1) := by decide +kernel
theorem dL_law_189 : decode cL_law 189 = .ok (.iconst 3, 1) := by decide +kernel
theorem dL_law_190 : decode cL_law 190 = .ok (.iadd, 1) := by decide +kernel
theorem dL_law_191 : decode cL_law 191 = .ok (.iaload, 1) := by decide +kernel
theorem dL_law_192 : decode cL_law 192 = .ok (.aload_n 0, 1) := by decide +kernel
theorem dL_law_193 : decode cL_law 193 = .ok (.iload_n 3, 1) := by decide +kernel
theorem dL_law_194 : decode cL_law 194 = .ok (.iconst 4, 1) := by decide +kernel
theorem dL_law_195 : decode cL_law 195 = .ok (.iadd, 1) := by decide +kernel
theorem dL_law_196 : decode cL_law 196 = .ok (.iaload, 1) := by decide +kernel
theorem dL_law_197 : decode cL_law 197 = .ok (.aload_n 0, 1) := by decide +kernel
theorem dL_law_198 : decode cL_law 198 = .ok (.iload_n 3, 1) := by decide +kernel
theorem dL_law_199 : decode cL_law 199 = .ok (.iconst 5, 1) := by decide +kernel
theorem dL_law_200 : decode cL_law 200 = .ok (.iadd, 1) := by decide +kernel
theorem dL_law_201 : decode cL_law 201 = .ok (.iaload, 1) := by decide +kernel
theorem dL_law_202 : decode cL_law 202 = .ok (.aload_n 0, 1) := by decide +kernel
theorem dL_law_203 : decode cL_law 203 = .ok (.iload_n 3, 1) := by decide +kernel
theorem dL_law_204 : decode cL_law 204 = .ok (.bipush 6, 2) := by decide +kernel
theorem dL_law_206 : decode cL_law 206 = .ok (.iadd, 1) := by decide +kernel
theorem dL_law_207 : decode cL_law 207 = .ok (.iaload, 1) := by decide +kernel
theorem dL_law_208 : decode cL_law 208 = .ok (.invokevirtual 22, 3) := by decide +kernel
theorem dL_law_211 : decode cL_law 211 = .ok (.if_icmp .eq 519, 3) := by decide +kernel
theorem dL_law_214 : decode cL_law 214 = .ok (.iconst 0, 1) := by decide +kernel
theorem dL_law_215 : decode cL_law 215 = .ok (.ireturn, 1) := by decide +kernel
theorem dL_law_216 : decode cL_law 216 = .ok (.aload_n 1, 1) := by decide +kernel
theorem dL_law_217 : decode cL_law 217 = .ok (.aload_n 0, 1) := by decide +kernel
theorem dL_law_218 : decode cL_law 218 = .ok (.iload_n 3, 1) := by decide +kernel
theorem dL_law_219 : decode cL_law 219 = .ok (.iconst 1, 1) := by decide +kernel
theorem dL_law_220 : decode cL_law 220 = .ok (.iadd, 1) := by decide +kernel
theorem dL_law_221 : decode cL_law 221 = .ok (.iaload, 1) := by decide +kernel
theorem dL_law_222 : decode cL_law 222 = .ok (.invokevirtual 23, 3) := by decide +kernel
theorem dL_law_225 : decode cL_law 225 = .ok (.aload_n 2, 1) := by decide +kernel
theorem dL_law_226 : decode cL_law 226 = .ok (.aload_n 0, 1) := by decide +kernel
theorem dL_law_227 : decode cL_law 227 = .ok (.iload_n 3, 1) := by decide +kernel
theorem dL_law_228 : decode cL_law 228 = .ok (.iconst 1, 1) := by decide +kernel
theorem dL_law_229 : decode cL_law 229 = .ok (.iadd, 1) := by decide +kernel
theorem dL_law_230 : decode cL_law 230 = .ok (.iaload, 1) := by decide +kernel
theorem dL_law_231 : decode cL_law 231 = .ok (.invokevirtual 27, 3) := by decide +kernel
theorem dL_law_234 : decode cL_law 234 = .ok (.if_icmp .eq 496, 3) := by decide +kernel
theorem dL_law_237 : decode cL_law 237 = .ok (.iconst 0, 1) := by decide +kernel
theorem dL_law_238 : decode cL_law 238 = .ok (.ireturn, 1) := by decide +kernel
theorem dL_law_239 : decode cL_law 239 = .ok (.aload_n 1, 1) := by decide +kernel
theorem dL_law_240 : decode cL_law 240 = .ok (.aload_n 0, 1) := by decide +kernel
theorem dL_law_241 : decode cL_law 241 = .ok (.iload_n 3, 1) := by decide +kernel
theorem dL_law_242 : decode cL_law 242 = .ok (.iconst 1, 1) := by decide +kernel
theorem dL_law_243 : decode cL_law 243 = .ok (.iadd, 1) := by decide +kernel
theorem dL_law_244 : decode cL_law 244 = .ok (.iaload, 1) := by decide +kernel
theorem dL_law_245 : decode cL_law 245 = .ok (.invokevirtual 28, 3) := by decide +kernel
theorem dL_law_248 : decode cL_law 248 = .ok (.aload_n 2, 1) := by decide +kernel
theorem dL_law_249 : decode cL_law 249 = .ok (.aload_n 0, 1) := by decide +kernel
theorem dL_law_250 : decode cL_law 250 = .ok (.iload_n 3, 1) := by decide +kernel
theorem dL_law_251 : decode cL_law 251 = .ok (.iconst 1, 1) := by decide +kernel
theorem dL_law_252 : decode cL_law 252 = .ok (.iadd, 1) := by decide +kernel
theorem dL_law_253 : decode cL_law 253 = .ok (.iaload, 1) := by decide +kernel
theorem dL_law_254 : decode cL_law 254 = .ok (.invokevirtual 31, 3) := by decide +kernel
theorem dL_law_257 : decode cL_law 257 = .ok (.if_icmp .eq 473, 3) := by decide +kernel
theorem dL_law_260 : decode cL_law 260 = .ok (.iconst 0, 1) := by decide +kernel
theorem dL_law_261 : decode cL_law 261 = .ok (.ireturn, 1) := by decide +kernel
end
section
theorem dL_law_262 : decode cL_law 262 = .ok (.aload_n 1, 1) := by decide +kernel
theorem dL_law_263 : decode cL_law 263 = .ok (.aload_n 0, 1) := by decide +kernel
theorem dL_law_264 : decode cL_law 264 = .ok (.iload_n 3, 1) := by decide +kernel
theorem dL_law_265 : decode cL_law 265 = .ok (.iconst 1, 1) := by decide +kernel
theorem dL_law_266 : decode cL_law 266 = .ok (.iadd, 1) := by decide +kernel
theorem dL_law_267 : decode cL_law 267 = .ok (.iaload, 1) := by decide +kernel
theorem dL_law_268 : decode cL_law 268 = .ok (.invokevirtual 32, 3) := by decide +kernel
theorem dL_law_271 : decode cL_law 271 = .ok (.aload_n 2, 1) := by decide +kernel
theorem dL_law_272 : decode cL_law 272 = .ok (.aload_n 0, 1) := by decide +kernel
theorem dL_law_273 : decode cL_law 273 = .ok (.iload_n 3, 1) := by decide +kernel
theorem dL_law_274 : decode cL_law 274 = .ok (.iconst 1, 1) := by decide +kernel
theorem dL_law_275 : decode cL_law 275 = .ok (.iadd, 1) := by decide +kernel
theorem dL_law_276 : decode cL_law 276 = .ok (.iaload, 1) := by decide +kernel
theorem dL_law_277 : decode cL_law 277 = .ok (.invokevirtual 35, 3) := by decide +kernel
theorem dL_law_280 : decode cL_law 280 = .ok (.if_icmp .eq 450, 3) := by decide +kernel
theorem dL_law_283 : decode cL_law 283 = .ok (.iconst 0, 1) := by decide +kernel
theorem dL_law_284 : decode cL_law 284 = .ok (.ireturn, 1) := by decide +kernel
theorem dL_law_285 : decode cL_law 285 = .ok (.aload_n 1, 1) := by decide +kernel
theorem dL_law_286 : decode cL_law 286 = .ok (.invokevirtual 36, 3) := by decide +kernel
theorem dL_law_289 : decode cL_law 289 = .ok (.aload_n 2, 1) := by decide +kernel
theorem dL_law_290 : decode cL_law 290 = .ok (.invokevirtual 39, 3) := by decide +kernel
theorem dL_law_293 : decode cL_law 293 = .ok (.if_icmp .eq 437, 3) := by decide +kernel
theorem dL_law_296 : decode cL_law 296 = .ok (.iconst 0, 1) := by decide +kernel
theorem dL_law_297 : decode cL_law 297 = .ok (.ireturn, 1) := by decide +kernel
theorem dL_law_298 : decode cL_law 298 = .ok (.aload_n 1, 1) := by decide +kernel
theorem dL_law_299 : decode cL_law 299 = .ok (.aload_n 0, 1) := by decide +kernel
theorem dL_law_300 : decode cL_law 300 = .ok (.iload_n 3, 1) := by decide +kernel
theorem dL_law_301 : decode cL_law 301 = .ok (.iconst 1, 1) := by decide +kernel
theorem dL_law_302 : decode cL_law 302 = .ok (.iadd, 1) := by decide +kernel
theorem dL_law_303 : decode cL_law 303 = .ok (.iaload, 1) := by decide +kernel
theorem dL_law_304 : decode cL_law 304 = .ok (.aload_n 0, 1) := by decide +kernel
theorem dL_law_305 : decode cL_law 305 = .ok (.iload_n 3, 1) := by decide +kernel
theorem dL_law_306 : decode cL_law 306 = .ok (.iconst 2, 1) := by decide +kernel
theorem dL_law_307 : decode cL_law 307 = .ok (.iadd, 1) := by decide +kernel
theorem dL_law_308 : decode cL_law 308 = .ok (.iaload, 1) := by decide +kernel
theorem dL_law_309 : decode cL_law 309 = .ok (.invokevirtual 40, 3) := by decide +kernel
theorem dL_law_312 : decode cL_law 312 = .ok (.aload_n 2, 1) := by decide +kernel
theorem dL_law_313 : decode cL_law 313 = .ok (.aload_n 0, 1) := by decide +kernel
theorem dL_law_314 : decode cL_law 314 = .ok (.iload_n 3, 1) := by decide +kernel
theorem dL_law_315 : decode cL_law 315 = .ok (.iconst 1, 1) := by decide +kernel
theorem dL_law_316 : decode cL_law 316 = .ok (.iadd, 1) := by decide +kernel
theorem dL_law_317 : decode cL_law 317 = .ok (.iaload, 1) := by decide +kernel
theorem dL_law_318 : decode cL_law 318 = .ok (.aload_n 0, 1) := by decide +kernel
theorem dL_law_319 : decode cL_law 319 = .ok (.iload_n 3, 1) := by decide +kernel
theorem dL_law_320 : decode cL_law 320 = .ok (.iconst 2, 1) := by decide +kernel
theorem dL_law_321 : decode cL_law 321 = .ok (.iadd, 1) := by decide +kernel
theorem dL_law_322 : decode cL_law 322 = .ok (.iaload, 1) := by decide +kernel
theorem dL_law_323 : decode cL_law 323 = .ok (.invokevirtual 44, 3) := by decide +kernel
theorem dL_law_326 : decode cL_law 326 = .ok (.if_icmp .eq 404, 3) := by decide +kernel
theorem dL_law_329 : decode cL_law 329 = .ok (.iconst 0, 1) := by decide +kernel
theorem dL_law_330 : decode cL_law 330 = .ok (.ireturn, 1) := by decide +kernel
theorem dL_law_331 : decode cL_law 331 = .ok (.aload_n 1, 1) := by decide +kernel
theorem dL_law_332 : decode cL_law 332 = .ok (.aload_n 0, 1) := by decide +kernel
theorem dL_law_333 : decode cL_law 333 = .ok (.iload_n 3, 1) := by decide +kernel
theorem dL_law_334 : decode cL_law 334 = .ok (.iconst 1, 1) := by decide +kernel
theorem dL_law_335 : decode cL_law 335 = .ok (.iadd, 1) := by decide +kernel
theorem dL_law_336 : decode cL_law 336 = .ok (.iaload, 1) := by decide +kernel
theorem dL_law_337 : decode cL_law 337 = .ok (.invokevirtual 45, 3) := by decide +kernel
theorem dL_law_340 : decode cL_law 340 = .ok (.aload_n 2, 1) := by decide +kernel
theorem dL_law_341 : decode cL_law 341 = .ok (.aload_n 0, 1) := by decide +kernel
theorem dL_law_342 : decode cL_law 342 = .ok (.iload_n 3, 1) := by decide +kernel
theorem dL_law_343 : decode cL_law 343 = .ok (.iconst 1, 1) := by decide +kernel
theorem dL_law_344 : decode cL_law 344 = .ok (.iadd, 1) := by decide +kernel
theorem dL_law_345 : decode cL_law 345 = .ok (.iaload, 1) := by decide +kernel
theorem dL_law_346 : decode cL_law 346 = .ok (.invokevirtual 48, 3) := by decide +kernel
theorem dL_law_349 : decode cL_law 349 = .ok (.if_icmp .eq 381, 3) := by decide +kernel
theorem dL_law_352 : decode cL_law 352 = .ok (.iconst 0, 1) := by decide +kernel
theorem dL_law_353 : decode cL_law 353 = .ok (.ireturn, 1) := by decide +kernel
theorem dL_law_354 : decode cL_law 354 = .ok (.aload_n 1, 1) := by decide +kernel
theorem dL_law_355 : decode cL_law 355 = .ok (.aload_n 0, 1) := by decide +kernel
theorem dL_law_356 : decode cL_law 356 = .ok (.iload_n 3, 1) := by decide +kernel
theorem dL_law_357 : decode cL_law 357 = .ok (.iconst 1, 1) := by decide +kernel
theorem dL_law_358 : decode cL_law 358 = .ok (.iadd, 1) := by decide +kernel
theorem dL_law_359 : decode cL_law 359 = .ok (.iaload, 1) := by decide +kernel
theorem dL_law_360 : decode cL_law 360 = .ok (.aload_n 0, 1) := by decide +kernel
theorem dL_law_361 : decode cL_law 361 = .ok (.iload_n 3, 1) := by decide +kernel
theorem dL_law_362 : decode cL_law 362 = .ok (.iconst 2, 1) := by decide +kernel
theorem dL_law_363 : decode cL_law 363 = .ok (.iadd, 1) := by decide +kernel
theorem dL_law_364 : decode cL_law 364 = .ok (.iaload, 1) := by decide +kernel
theorem dL_law_365 : decode cL_law 365 = .ok (.invokevirtual 49, 3) := by decide +kernel
theorem dL_law_368 : decode cL_law 368 = .ok (.aload_n 2, 1) := by decide +kernel
theorem dL_law_369 : decode cL_law 369 = .ok (.aload_n 0, 1) := by decide +kernel
theorem dL_law_370 : decode cL_law 370 = .ok (.iload_n 3, 1) := by decide +kernel
theorem dL_law_371 : decode cL_law 371 = .ok (.iconst 1, 1) := by decide +kernel
theorem dL_law_372 : decode cL_law 372 = .ok (.iadd, 1) := by decide +kernel
theorem dL_law_373 : decode cL_law 373 = .ok (.iaload, 1) := by decide +kernel
theorem dL_law_374 : decode cL_law 374 = .ok (.aload_n 0, 1) := by decide +kernel
theorem dL_law_375 : decode cL_law 375 = .ok (.iload_n 3, 1) := by decide +kernel
theorem dL_law_376 : decode cL_law 376 = .ok (.iconst 2, 1) := by decide +kernel
theorem dL_law_377 : decode cL_law 377 = .ok (.iadd, 1) := by decide +kernel
theorem dL_law_378 : decode cL_law 378 = .ok (.iaload, 1) := by decide +kernel
theorem dL_law_379 : decode cL_law 379 = .ok (.invokevirtual 52, 3) := by decide +kernel
theorem dL_law_382 : decode cL_law 382 = .ok (.if_icmp .eq 348, 3) := by decide +kernel
theorem dL_law_385 : decode cL_law 385 = .ok (.iconst 0, 1) := by decide +kernel
theorem dL_law_386 : decode cL_law 386 = .ok (.ireturn, 1) := by decide +kernel
theorem dL_law_387 : decode cL_law 387 = .ok (.aload_n 1, 1) := by decide +kernel
theorem dL_law_388 : decode cL_law 388 = .ok (.aload_n 0, 1) := by decide +kernel
theorem dL_law_389 : decode cL_law 389 = .ok (.iload_n 3, 1) := by decide +kernel
theorem dL_law_390 : decode cL_law 390 = .ok (.iconst 1, 1) := by decide +kernel
theorem dL_law_391 : decode cL_law 391 = .ok (.iadd, 1) := by decide +kernel
theorem dL_law_392 : decode cL_law 392 = .ok (.iaload, 1) := by decide +kernel
theorem dL_law_393 : decode cL_law 393 = .ok (.aload_n 0, 1) := by decide +kernel
theorem dL_law_394 : decode cL_law 394 = .ok (.iload_n 3, 1) := by decide +kernel
theorem dL_law_395 : decode cL_law 395 = .ok (.iconst 2, 1) := by decide +kernel
theorem dL_law_396 : decode cL_law 396 = .ok (.iadd, 1) := by decide +kernel
theorem dL_law_397 : decode cL_law 397 = .ok (.iaload, 1) := by decide +kernel
theorem dL_law_398 : decode cL_law 398 = .ok (.invokevirtual 53, 3) := by decide +kernel
theorem dL_law_401 : decode cL_law 401 = .ok (.aload_n 2, 1) := by decide +kernel
theorem dL_law_402 : decode cL_law 402 = .ok (.aload_n 0, 1) := by decide +kernel
theorem dL_law_403 : decode cL_law 403 = .ok (.iload_n 3, 1) := by decide +kernel
theorem dL_law_404 : decode cL_law 404 = .ok (.iconst 1, 1) := by decide +kernel
theorem dL_law_405 : decode cL_law 405 = .ok (.iadd, 1) := by decide +kernel
theorem dL_law_406 : decode cL_law 406 = .ok (.iaload, 1) := by decide +kernel
theorem dL_law_407 : decode cL_law 407 = .ok (.aload_n 0, 1) := by decide +kernel
theorem dL_law_408 : decode cL_law 408 = .ok (.iload_n 3, 1) := by decide +kernel
theorem dL_law_409 : decode cL_law 409 = .ok (.iconst 2, 1) := by decide +kernel
theorem dL_law_410 : decode cL_law 410 = .ok (.iadd, 1) := by decide +kernel
theorem dL_law_411 : decode cL_law 411 = .ok (.iaload, 1) := by decide +kernel
theorem dL_law_412 : decode cL_law 412 = .ok (.invokevirtual 56, 3) := by decide +kernel
theorem dL_law_415 : decode cL_law 415 = .ok (.if_icmp .eq 315, 3) := by decide +kernel
theorem dL_law_418 : decode cL_law 418 = .ok (.iconst 0, 1) := by decide +kernel
theorem dL_law_419 : decode cL_law 419 = .ok (.ireturn, 1) := by decide +kernel
theorem dL_law_420 : decode cL_law 420 = .ok (.aload_n 1, 1) := by decide +kernel
theorem dL_law_421 : decode cL_law 421 = .ok (.aload_n 0, 1) := by decide +kernel
theorem dL_law_422 : decode cL_law 422 = .ok (.iload_n 3, 1) := by decide +kernel
theorem dL_law_423 : decode cL_law 423 = .ok (.iconst 1, 1) := by decide +kernel
theorem dL_law_424 : decode cL_law 424 = .ok (.iadd, 1) := by decide +kernel
theorem dL_law_425 : decode cL_law 425 = .ok (.iaload, 1) := by decide +kernel
theorem dL_law_426 : decode cL_law 426 = .ok (.aload_n 0, 1) := by decide +kernel
theorem dL_law_427 : decode cL_law 427 = .ok (.iload_n 3, 1) := by decide +kernel
end
section
theorem dL_law_428 : decode cL_law 428 = .ok (.iconst 2, 1) := by decide +kernel
theorem dL_law_429 : decode cL_law 429 = .ok (.iadd, 1) := by decide +kernel
theorem dL_law_430 : decode cL_law 430 = .ok (.iaload, 1) := by decide +kernel
theorem dL_law_431 : decode cL_law 431 = .ok (.aload_n 0, 1) := by decide +kernel
theorem dL_law_432 : decode cL_law 432 = .ok (.iload_n 3, 1) := by decide +kernel
theorem dL_law_433 : decode cL_law 433 = .ok (.iconst 3, 1) := by decide +kernel
theorem dL_law_434 : decode cL_law 434 = .ok (.iadd, 1) := by decide +kernel
theorem dL_law_435 : decode cL_law 435 = .ok (.iaload, 1) := by decide +kernel
theorem dL_law_436 : decode cL_law 436 = .ok (.invokevirtual 57, 3) := by decide +kernel
theorem dL_law_439 : decode cL_law 439 = .ok (.aload_n 2, 1) := by decide +kernel
theorem dL_law_440 : decode cL_law 440 = .ok (.aload_n 0, 1) := by decide +kernel
theorem dL_law_441 : decode cL_law 441 = .ok (.iload_n 3, 1) := by decide +kernel
theorem dL_law_442 : decode cL_law 442 = .ok (.iconst 1, 1) := by decide +kernel
theorem dL_law_443 : decode cL_law 443 = .ok (.iadd, 1) := by decide +kernel
theorem dL_law_444 : decode cL_law 444 = .ok (.iaload, 1) := by decide +kernel
theorem dL_law_445 : decode cL_law 445 = .ok (.aload_n 0, 1) := by decide +kernel
theorem dL_law_446 : decode cL_law 446 = .ok (.iload_n 3, 1) := by decide +kernel
theorem dL_law_447 : decode cL_law 447 = .ok (.iconst 2, 1) := by decide +kernel
theorem dL_law_448 : decode cL_law 448 = .ok (.iadd, 1) := by decide +kernel
theorem dL_law_449 : decode cL_law 449 = .ok (.iaload, 1) := by decide +kernel
theorem dL_law_450 : decode cL_law 450 = .ok (.aload_n 0, 1) := by decide +kernel
theorem dL_law_451 : decode cL_law 451 = .ok (.iload_n 3, 1) := by decide +kernel
theorem dL_law_452 : decode cL_law 452 = .ok (.iconst 3, 1) := by decide +kernel
theorem dL_law_453 : decode cL_law 453 = .ok (.iadd, 1) := by decide +kernel
theorem dL_law_454 : decode cL_law 454 = .ok (.iaload, 1) := by decide +kernel
theorem dL_law_455 : decode cL_law 455 = .ok (.invokevirtual 61, 3) := by decide +kernel
theorem dL_law_458 : decode cL_law 458 = .ok (.if_icmp .eq 272, 3) := by decide +kernel
theorem dL_law_461 : decode cL_law 461 = .ok (.iconst 0, 1) := by decide +kernel
theorem dL_law_462 : decode cL_law 462 = .ok (.ireturn, 1) := by decide +kernel
theorem dL_law_463 : decode cL_law 463 = .ok (.aload_n 1, 1) := by decide +kernel
theorem dL_law_464 : decode cL_law 464 = .ok (.invokevirtual 62, 3) := by decide +kernel
theorem dL_law_467 : decode cL_law 467 = .ok (.aload_n 2, 1) := by decide +kernel
theorem dL_law_468 : decode cL_law 468 = .ok (.invokevirtual 65, 3) := by decide +kernel
theorem dL_law_471 : decode cL_law 471 = .ok (.if_icmp .eq 259, 3) := by decide +kernel
theorem dL_law_474 : decode cL_law 474 = .ok (.iconst 0, 1) := by decide +kernel
theorem dL_law_475 : decode cL_law 475 = .ok (.ireturn, 1) := by decide +kernel
theorem dL_law_476 : decode cL_law 476 = .ok (.aload_n 1, 1) := by decide +kernel
theorem dL_law_477 : decode cL_law 477 = .ok (.aload_n 0, 1) := by decide +kernel
theorem dL_law_478 : decode cL_law 478 = .ok (.iload_n 3, 1) := by decide +kernel
theorem dL_law_479 : decode cL_law 479 = .ok (.iconst 1, 1) := by decide +kernel
theorem dL_law_480 : decode cL_law 480 = .ok (.iadd, 1) := by decide +kernel
theorem dL_law_481 : decode cL_law 481 = .ok (.iaload, 1) := by decide +kernel
theorem dL_law_482 : decode cL_law 482 = .ok (.i2l, 1) := by decide +kernel
theorem dL_law_483 : decode cL_law 483 = .ok (.bipush 32, 2) := by decide +kernel
theorem dL_law_485 : decode cL_law 485 = .ok (.lshl, 1) := by decide +kernel
theorem dL_law_486 : decode cL_law 486 = .ok (.aload_n 0, 1) := by decide +kernel
theorem dL_law_487 : decode cL_law 487 = .ok (.iload_n 3, 1) := by decide +kernel
theorem dL_law_488 : decode cL_law 488 = .ok (.iconst 2, 1) := by decide +kernel
theorem dL_law_489 : decode cL_law 489 = .ok (.iadd, 1) := by decide +kernel
theorem dL_law_490 : decode cL_law 490 = .ok (.iaload, 1) := by decide +kernel
theorem dL_law_491 : decode cL_law 491 = .ok (.i2l, 1) := by decide +kernel
theorem dL_law_492 : decode cL_law 492 = .ok (.ldc2_w 66, 3) := by decide +kernel
theorem dL_law_495 : decode cL_law 495 = .ok (.land, 1) := by decide +kernel
theorem dL_law_496 : decode cL_law 496 = .ok (.lor, 1) := by decide +kernel
theorem dL_law_497 : decode cL_law 497 = .ok (.invokevirtual 68, 3) := by decide +kernel
theorem dL_law_500 : decode cL_law 500 = .ok (.aload_n 2, 1) := by decide +kernel
theorem dL_law_501 : decode cL_law 501 = .ok (.aload_n 0, 1) := by decide +kernel
theorem dL_law_502 : decode cL_law 502 = .ok (.iload_n 3, 1) := by decide +kernel
theorem dL_law_503 : decode cL_law 503 = .ok (.iconst 1, 1) := by decide +kernel
theorem dL_law_504 : decode cL_law 504 = .ok (.iadd, 1) := by decide +kernel
theorem dL_law_505 : decode cL_law 505 = .ok (.iaload, 1) := by decide +kernel
theorem dL_law_506 : decode cL_law 506 = .ok (.i2l, 1) := by decide +kernel
theorem dL_law_507 : decode cL_law 507 = .ok (.bipush 32, 2) := by decide +kernel
theorem dL_law_509 : decode cL_law 509 = .ok (.lshl, 1) := by decide +kernel
theorem dL_law_510 : decode cL_law 510 = .ok (.aload_n 0, 1) := by decide +kernel
theorem dL_law_511 : decode cL_law 511 = .ok (.iload_n 3, 1) := by decide +kernel
theorem dL_law_512 : decode cL_law 512 = .ok (.iconst 2, 1) := by decide +kernel
theorem dL_law_513 : decode cL_law 513 = .ok (.iadd, 1) := by decide +kernel
theorem dL_law_514 : decode cL_law 514 = .ok (.iaload, 1) := by decide +kernel
theorem dL_law_515 : decode cL_law 515 = .ok (.i2l, 1) := by decide +kernel
theorem dL_law_516 : decode cL_law 516 = .ok (.ldc2_w 66, 3) := by decide +kernel
theorem dL_law_519 : decode cL_law 519 = .ok (.land, 1) := by decide +kernel
theorem dL_law_520 : decode cL_law 520 = .ok (.lor, 1) := by decide +kernel
theorem dL_law_521 : decode cL_law 521 = .ok (.invokevirtual 72, 3) := by decide +kernel
theorem dL_law_524 : decode cL_law 524 = .ok (.if_icmp .eq 206, 3) := by decide +kernel
theorem dL_law_527 : decode cL_law 527 = .ok (.iconst 0, 1) := by decide +kernel
theorem dL_law_528 : decode cL_law 528 = .ok (.ireturn, 1) := by decide +kernel
theorem dL_law_529 : decode cL_law 529 = .ok (.aload_n 1, 1) := by decide +kernel
theorem dL_law_530 : decode cL_law 530 = .ok (.invokevirtual 73, 3) := by decide +kernel
theorem dL_law_533 : decode cL_law 533 = .ok (.aload_n 2, 1) := by decide +kernel
theorem dL_law_534 : decode cL_law 534 = .ok (.invokevirtual 76, 3) := by decide +kernel
theorem dL_law_537 : decode cL_law 537 = .ok (.if_icmp .eq 193, 3) := by decide +kernel
theorem dL_law_540 : decode cL_law 540 = .ok (.iconst 0, 1) := by decide +kernel
theorem dL_law_541 : decode cL_law 541 = .ok (.ireturn, 1) := by decide +kernel
theorem dL_law_542 : decode cL_law 542 = .ok (.aload_n 1, 1) := by decide +kernel
theorem dL_law_543 : decode cL_law 543 = .ok (.aload_n 0, 1) := by decide +kernel
theorem dL_law_544 : decode cL_law 544 = .ok (.iload_n 3, 1) := by decide +kernel
theorem dL_law_545 : decode cL_law 545 = .ok (.iconst 1, 1) := by decide +kernel
theorem dL_law_546 : decode cL_law 546 = .ok (.iadd, 1) := by decide +kernel
theorem dL_law_547 : decode cL_law 547 = .ok (.iaload, 1) := by decide +kernel
theorem dL_law_548 : decode cL_law 548 = .ok (.invokevirtual 77, 3) := by decide +kernel
theorem dL_law_551 : decode cL_law 551 = .ok (.aload_n 2, 1) := by decide +kernel
theorem dL_law_552 : decode cL_law 552 = .ok (.aload_n 0, 1) := by decide +kernel
theorem dL_law_553 : decode cL_law 553 = .ok (.iload_n 3, 1) := by decide +kernel
theorem dL_law_554 : decode cL_law 554 = .ok (.iconst 1, 1) := by decide +kernel
theorem dL_law_555 : decode cL_law 555 = .ok (.iadd, 1) := by decide +kernel
theorem dL_law_556 : decode cL_law 556 = .ok (.iaload, 1) := by decide +kernel
theorem dL_law_557 : decode cL_law 557 = .ok (.invokevirtual 80, 3) := by decide +kernel
theorem dL_law_560 : decode cL_law 560 = .ok (.if_icmp .eq 170, 3) := by decide +kernel
theorem dL_law_563 : decode cL_law 563 = .ok (.iconst 0, 1) := by decide +kernel
theorem dL_law_564 : decode cL_law 564 = .ok (.ireturn, 1) := by decide +kernel
theorem dL_law_565 : decode cL_law 565 = .ok (.aload_n 1, 1) := by decide +kernel
theorem dL_law_566 : decode cL_law 566 = .ok (.aload_n 0, 1) := by decide +kernel
theorem dL_law_567 : decode cL_law 567 = .ok (.iload_n 3, 1) := by decide +kernel
theorem dL_law_568 : decode cL_law 568 = .ok (.iconst 1, 1) := by decide +kernel
theorem dL_law_569 : decode cL_law 569 = .ok (.iadd, 1) := by decide +kernel
theorem dL_law_570 : decode cL_law 570 = .ok (.iaload, 1) := by decide +kernel
theorem dL_law_571 : decode cL_law 571 = .ok (.aload_n 0, 1) := by decide +kernel
theorem dL_law_572 : decode cL_law 572 = .ok (.iload_n 3, 1) := by decide +kernel
theorem dL_law_573 : decode cL_law 573 = .ok (.iconst 2, 1) := by decide +kernel
theorem dL_law_574 : decode cL_law 574 = .ok (.iadd, 1) := by decide +kernel
theorem dL_law_575 : decode cL_law 575 = .ok (.iaload, 1) := by decide +kernel
theorem dL_law_576 : decode cL_law 576 = .ok (.invokevirtual 81, 3) := by decide +kernel
theorem dL_law_579 : decode cL_law 579 = .ok (.aload_n 2, 1) := by decide +kernel
theorem dL_law_580 : decode cL_law 580 = .ok (.aload_n 0, 1) := by decide +kernel
theorem dL_law_581 : decode cL_law 581 = .ok (.iload_n 3, 1) := by decide +kernel
theorem dL_law_582 : decode cL_law 582 = .ok (.iconst 1, 1) := by decide +kernel
theorem dL_law_583 : decode cL_law 583 = .ok (.iadd, 1) := by decide +kernel
theorem dL_law_584 : decode cL_law 584 = .ok (.iaload, 1) := by decide +kernel
theorem dL_law_585 : decode cL_law 585 = .ok (.aload_n 0, 1) := by decide +kernel
theorem dL_law_586 : decode cL_law 586 = .ok (.iload_n 3, 1) := by decide +kernel
theorem dL_law_587 : decode cL_law 587 = .ok (.iconst 2, 1) := by decide +kernel
theorem dL_law_588 : decode cL_law 588 = .ok (.iadd, 1) := by decide +kernel
theorem dL_law_589 : decode cL_law 589 = .ok (.iaload, 1) := by decide +kernel
theorem dL_law_590 : decode cL_law 590 = .ok (.invokevirtual 84, 3) := by decide +kernel
theorem dL_law_593 : decode cL_law 593 = .ok (.if_icmp .eq 137, 3) := by decide +kernel
theorem dL_law_596 : decode cL_law 596 = .ok (.iconst 0, 1) := by decide +kernel
theorem dL_law_597 : decode cL_law 597 = .ok (.ireturn, 1) := by decide +kernel
theorem dL_law_598 : decode cL_law 598 = .ok (.aload_n 1, 1) := by decide +kernel
theorem dL_law_599 : decode cL_law 599 = .ok (.aload_n 0, 1) := by decide +kernel
end
section
theorem dL_law_600 : decode cL_law 600 = .ok (.iload_n 3, 1) := by decide +kernel
theorem dL_law_601 : decode cL_law 601 = .ok (.iconst 1, 1) := by decide +kernel
theorem dL_law_602 : decode cL_law 602 = .ok (.iadd, 1) := by decide +kernel
theorem dL_law_603 : decode cL_law 603 = .ok (.iaload, 1) := by decide +kernel
theorem dL_law_604 : decode cL_law 604 = .ok (.invokevirtual 85, 3) := by decide +kernel
theorem dL_law_607 : decode cL_law 607 = .ok (.aload_n 2, 1) := by decide +kernel
theorem dL_law_608 : decode cL_law 608 = .ok (.aload_n 0, 1) := by decide +kernel
theorem dL_law_609 : decode cL_law 609 = .ok (.iload_n 3, 1) := by decide +kernel
theorem dL_law_610 : decode cL_law 610 = .ok (.iconst 1, 1) := by decide +kernel
theorem dL_law_611 : decode cL_law 611 = .ok (.iadd, 1) := by decide +kernel
theorem dL_law_612 : decode cL_law 612 = .ok (.iaload, 1) := by decide +kernel
theorem dL_law_613 : decode cL_law 613 = .ok (.invokevirtual 88, 3) := by decide +kernel
theorem dL_law_616 : decode cL_law 616 = .ok (.if_icmp .eq 114, 3) := by decide +kernel
theorem dL_law_619 : decode cL_law 619 = .ok (.iconst 0, 1) := by decide +kernel
theorem dL_law_620 : decode cL_law 620 = .ok (.ireturn, 1) := by decide +kernel
theorem dL_law_621 : decode cL_law 621 = .ok (.aload_n 1, 1) := by decide +kernel
theorem dL_law_622 : decode cL_law 622 = .ok (.aload_n 0, 1) := by decide +kernel
theorem dL_law_623 : decode cL_law 623 = .ok (.iload_n 3, 1) := by decide +kernel
theorem dL_law_624 : decode cL_law 624 = .ok (.iconst 1, 1) := by decide +kernel
theorem dL_law_625 : decode cL_law 625 = .ok (.iadd, 1) := by decide +kernel
theorem dL_law_626 : decode cL_law 626 = .ok (.iaload, 1) := by decide +kernel
theorem dL_law_627 : decode cL_law 627 = .ok (.aload_n 0, 1) := by decide +kernel
theorem dL_law_628 : decode cL_law 628 = .ok (.iload_n 3, 1) := by decide +kernel
theorem dL_law_629 : decode cL_law 629 = .ok (.iconst 2, 1) := by decide +kernel
theorem dL_law_630 : decode cL_law 630 = .ok (.iadd, 1) := by decide +kernel
theorem dL_law_631 : decode cL_law 631 = .ok (.iaload, 1) := by decide +kernel
theorem dL_law_632 : decode cL_law 632 = .ok (.invokevirtual 89, 3) := by decide +kernel
theorem dL_law_635 : decode cL_law 635 = .ok (.aload_n 2, 1) := by decide +kernel
theorem dL_law_636 : decode cL_law 636 = .ok (.aload_n 0, 1) := by decide +kernel
theorem dL_law_637 : decode cL_law 637 = .ok (.iload_n 3, 1) := by decide +kernel
theorem dL_law_638 : decode cL_law 638 = .ok (.iconst 1, 1) := by decide +kernel
theorem dL_law_639 : decode cL_law 639 = .ok (.iadd, 1) := by decide +kernel
theorem dL_law_640 : decode cL_law 640 = .ok (.iaload, 1) := by decide +kernel
theorem dL_law_641 : decode cL_law 641 = .ok (.aload_n 0, 1) := by decide +kernel
theorem dL_law_642 : decode cL_law 642 = .ok (.iload_n 3, 1) := by decide +kernel
theorem dL_law_643 : decode cL_law 643 = .ok (.iconst 2, 1) := by decide +kernel
theorem dL_law_644 : decode cL_law 644 = .ok (.iadd, 1) := by decide +kernel
theorem dL_law_645 : decode cL_law 645 = .ok (.iaload, 1) := by decide +kernel
theorem dL_law_646 : decode cL_law 646 = .ok (.invokevirtual 92, 3) := by decide +kernel
theorem dL_law_649 : decode cL_law 649 = .ok (.if_icmp .eq 81, 3) := by decide +kernel
theorem dL_law_652 : decode cL_law 652 = .ok (.iconst 0, 1) := by decide +kernel
theorem dL_law_653 : decode cL_law 653 = .ok (.ireturn, 1) := by decide +kernel
theorem dL_law_654 : decode cL_law 654 = .ok (.aload_n 1, 1) := by decide +kernel
theorem dL_law_655 : decode cL_law 655 = .ok (.aload_n 0, 1) := by decide +kernel
theorem dL_law_656 : decode cL_law 656 = .ok (.iload_n 3, 1) := by decide +kernel
theorem dL_law_657 : decode cL_law 657 = .ok (.iconst 1, 1) := by decide +kernel
theorem dL_law_658 : decode cL_law 658 = .ok (.iadd, 1) := by decide +kernel
theorem dL_law_659 : decode cL_law 659 = .ok (.iaload, 1) := by decide +kernel
theorem dL_law_660 : decode cL_law 660 = .ok (.i2l, 1) := by decide +kernel
theorem dL_law_661 : decode cL_law 661 = .ok (.bipush 32, 2) := by decide +kernel
theorem dL_law_663 : decode cL_law 663 = .ok (.lshl, 1) := by decide +kernel
theorem dL_law_664 : decode cL_law 664 = .ok (.aload_n 0, 1) := by decide +kernel
theorem dL_law_665 : decode cL_law 665 = .ok (.iload_n 3, 1) := by decide +kernel
theorem dL_law_666 : decode cL_law 666 = .ok (.iconst 2, 1) := by decide +kernel
theorem dL_law_667 : decode cL_law 667 = .ok (.iadd, 1) := by decide +kernel
theorem dL_law_668 : decode cL_law 668 = .ok (.iaload, 1) := by decide +kernel
theorem dL_law_669 : decode cL_law 669 = .ok (.i2l, 1) := by decide +kernel
theorem dL_law_670 : decode cL_law 670 = .ok (.ldc2_w 66, 3) := by decide +kernel
theorem dL_law_673 : decode cL_law 673 = .ok (.land, 1) := by decide +kernel
theorem dL_law_674 : decode cL_law 674 = .ok (.lor, 1) := by decide +kernel
theorem dL_law_675 : decode cL_law 675 = .ok (.invokevirtual 93, 3) := by decide +kernel
theorem dL_law_678 : decode cL_law 678 = .ok (.aload_n 2, 1) := by decide +kernel
theorem dL_law_679 : decode cL_law 679 = .ok (.aload_n 0, 1) := by decide +kernel
theorem dL_law_680 : decode cL_law 680 = .ok (.iload_n 3, 1) := by decide +kernel
theorem dL_law_681 : decode cL_law 681 = .ok (.iconst 1, 1) := by decide +kernel
theorem dL_law_682 : decode cL_law 682 = .ok (.iadd, 1) := by decide +kernel
theorem dL_law_683 : decode cL_law 683 = .ok (.iaload, 1) := by decide +kernel
theorem dL_law_684 : decode cL_law 684 = .ok (.i2l, 1) := by decide +kernel
theorem dL_law_685 : decode cL_law 685 = .ok (.bipush 32, 2) := by decide +kernel
theorem dL_law_687 : decode cL_law 687 = .ok (.lshl, 1) := by decide +kernel
theorem dL_law_688 : decode cL_law 688 = .ok (.aload_n 0, 1) := by decide +kernel
theorem dL_law_689 : decode cL_law 689 = .ok (.iload_n 3, 1) := by decide +kernel
theorem dL_law_690 : decode cL_law 690 = .ok (.iconst 2, 1) := by decide +kernel
theorem dL_law_691 : decode cL_law 691 = .ok (.iadd, 1) := by decide +kernel
theorem dL_law_692 : decode cL_law 692 = .ok (.iaload, 1) := by decide +kernel
theorem dL_law_693 : decode cL_law 693 = .ok (.i2l, 1) := by decide +kernel
theorem dL_law_694 : decode cL_law 694 = .ok (.ldc2_w 66, 3) := by decide +kernel
theorem dL_law_697 : decode cL_law 697 = .ok (.land, 1) := by decide +kernel
theorem dL_law_698 : decode cL_law 698 = .ok (.lor, 1) := by decide +kernel
theorem dL_law_699 : decode cL_law 699 = .ok (.invokevirtual 96, 3) := by decide +kernel
theorem dL_law_702 : decode cL_law 702 = .ok (.if_icmp .eq 28, 3) := by decide +kernel
theorem dL_law_705 : decode cL_law 705 = .ok (.iconst 0, 1) := by decide +kernel
theorem dL_law_706 : decode cL_law 706 = .ok (.ireturn, 1) := by decide +kernel
theorem dL_law_707 : decode cL_law 707 = .ok (.aload_n 1, 1) := by decide +kernel
theorem dL_law_708 : decode cL_law 708 = .ok (.aload_n 0, 1) := by decide +kernel
theorem dL_law_709 : decode cL_law 709 = .ok (.iload_n 3, 1) := by decide +kernel
theorem dL_law_710 : decode cL_law 710 = .ok (.iconst 1, 1) := by decide +kernel
theorem dL_law_711 : decode cL_law 711 = .ok (.iadd, 1) := by decide +kernel
theorem dL_law_712 : decode cL_law 712 = .ok (.iaload, 1) := by decide +kernel
theorem dL_law_713 : decode cL_law 713 = .ok (.invokevirtual 97, 3) := by decide +kernel
theorem dL_law_716 : decode cL_law 716 = .ok (.aload_n 2, 1) := by decide +kernel
theorem dL_law_717 : decode cL_law 717 = .ok (.aload_n 0, 1) := by decide +kernel
theorem dL_law_718 : decode cL_law 718 = .ok (.iload_n 3, 1) := by decide +kernel
theorem dL_law_719 : decode cL_law 719 = .ok (.iconst 1, 1) := by decide +kernel
theorem dL_law_720 : decode cL_law 720 = .ok (.iadd, 1) := by decide +kernel
theorem dL_law_721 : decode cL_law 721 = .ok (.iaload, 1) := by decide +kernel
theorem dL_law_722 : decode cL_law 722 = .ok (.invokevirtual 100, 3) := by decide +kernel
theorem dL_law_725 : decode cL_law 725 = .ok (.if_icmp .eq 5, 3) := by decide +kernel
theorem dL_law_728 : decode cL_law 728 = .ok (.iconst 0, 1) := by decide +kernel
theorem dL_law_729 : decode cL_law 729 = .ok (.ireturn, 1) := by decide +kernel
theorem dL_law_730 : decode cL_law 730 = .ok (.iinc 3 7, 3) := by decide +kernel
theorem dL_law_733 : decode cL_law 733 = .ok (.goto (-715), 3) := by decide +kernel
theorem dL_law_736 : decode cL_law 736 = .ok (.iconst 1, 1) := by decide +kernel
theorem dL_law_737 : decode cL_law 737 = .ok (.ireturn, 1) := by decide +kernel
end
section
/-! own words: overlays of rows, two-valued answers, a contract's start and end, rows of the kit at fixed array classes -/
def ov (g : Nat → Int32) (n : Nat) (v : Int32) : Nat → Int32 := fun j => if j < n then v else g j
def ovL (g : Nat → Int64) (n : Nat) (v : Int64) : Nat → Int64 := fun j => if j < n then v else g j
theorem ov_0 (g : Nat → Int32) (v : Int32) : ov g 0 v = g := by funext j; simp [ov]
theorem ovL_0 (g : Nat → Int64) (v : Int64) : ovL g 0 v = g := by funext j; simp [ovL]
theorem ov_s (g : Nat → Int32) (i : Nat) (v : Int32) : upd (ov g i v) i v = ov g (i + 1) v := by
  funext j
  simp only [upd, ov]
  by_cases h : j = i
  · subst h; simp
  · by_cases h2 : j < i
    · rw [if_neg h, if_pos h2, if_pos (by omega)]
    · rw [if_neg h, if_neg h2, if_neg (by omega)]
theorem ovL_s (g : Nat → Int64) (i : Nat) (v : Int64) : vp_updL (ovL g i v) i v = ovL g (i + 1) v := by
  funext j
  simp only [vp_updL, ovL]
  by_cases h : j = i
  · subst h; simp
  · by_cases h2 : j < i
    · rw [if_neg h, if_pos h2, if_pos (by omega)]
    · rw [if_neg h, if_neg h2, if_neg (by omega)]
theorem ov_st (g : Nat → Int32) {i : Nat} (v : Int32) (h : i < 2 ^ 31) : upd (ov g i v) (nI i).toNatClampNeg v = ov g (i + 1) v := by rw [nI_clamp h]; exact ov_s g i v
theorem ovL_st (g : Nat → Int64) {i : Nat} (v : Int64) (h : i < 2 ^ 31) : vp_updL (ovL g i v) (nI i).toNatClampNeg v = ovL g (i + 1) v := by rw [nI_clamp h]; exact ovL_s g i v
theorem ov_stZ (g : Nat → Int32) {i : Nat} (v : Int32) (h : i < 2 ^ 31) (hv : vp_nar .boolean v = v) : upd (ov g i v) (nI i).toNatClampNeg (vp_nar .boolean v) = ov g (i + 1) v := by rw [hv]; exact ov_st g v h
theorem ov_in (g : Nat → Int32) {n j : Nat} (v : Int32) (h : j < n) : ov g n v j = v := by simp [ov, h]
theorem ovL_in (g : Nat → Int64) {n j : Nat} (v : Int64) (h : j < n) : ovL g n v j = v := by simp [ovL, h]
theorem ov_nI (g : Nat → Int32) {n j : Nat} (v : Int32) (h : j < n) (hn : n < 2 ^ 31) : ov g n v (nI j).toNatClampNeg = v := by rw [nI_clamp (by omega)]; exact ov_in g v h
theorem ovL_nI (g : Nat → Int64) {n j : Nat} (v : Int64) (h : j < n) (hn : n < 2 ^ 31) : ovL g n v (nI j).toNatClampNeg = v := by rw [nI_clamp (by omega)]; exact ovL_in g v h
abbrev V6 (x : Int32) : Prop := 0 ≤ x.toInt ∧ x.toInt < 6
abbrev V3 (x : Int32) : Prop := 0 ≤ x.toInt ∧ x.toInt < 3
abbrev VN (x : Int32) : Prop := -1000000 ≤ x.toInt ∧ x.toInt ≤ 1000000
/-- what promise 3 lets pass as an ACT -/
def okP (k a b c d e : Int32) : Prop :=
  (k.toInt = 0 ∧ V6 a ∧ VN b) ∨ (k.toInt = 1 ∧ V6 a ∧ VN b ∧ VN c ∧ b.toInt ≤ c.toInt) ∨ (k.toInt = 2 ∧ V6 a ∧ V6 b ∧ V6 c) ∨ (k.toInt = 3 ∧ V6 a ∧ V6 b ∧ V6 c) ∨ (k.toInt = 4 ∧ V6 a ∧ V3 b ∧ V6 c) ∨ (k.toInt = 5 ∧ V6 a) ∨ (k.toInt = 6 ∧ V6 a ∧ V6 b) ∨ (k.toInt = 7 ∧ V6 a ∧ V6 b ∧ V6 c) ∨ (k.toInt = 8 ∧ V6 a ∧ V6 b) ∨ (k.toInt = 9 ∧ V6 a ∧ V3 b ∧ V6 c ∧ V6 d) ∨ (k.toInt = 10 ∧ V6 a ∧ V6 b ∧ V3 c ∧ V6 d) ∨ (k.toInt = 11 ∧ V6 a ∧ V6 b ∧ V6 c ∧ V6 d ∧ V6 e) ∨ (k.toInt = 12 ∧ V6 a ∧ V3 b ∧ V6 c ∧ V6 d ∧ V6 e) ∨ (k.toInt = 13 ∧ V6 a ∧ V6 b) ∨ (k.toInt = 14 ∧ 1 ≤ b.toInt ∧ b.toInt ≤ 10)
theorem okP_0 {k a b c d e : Int32} (hk : k.toInt = 0) : okP k a b c d e ↔ (V6 a ∧ VN b) := ⟨fun h => by
  rcases h with h | h | h | h | h | h | h | h | h | h | h | h | h | h | h
  all_goals first | exact h.2 | exact absurd (hk.symm.trans h.1) (by decide), fun h => Or.inl ⟨hk, h⟩⟩
theorem okP_1 {k a b c d e : Int32} (hk : k.toInt = 1) : okP k a b c d e ↔ (V6 a ∧ VN b ∧ VN c ∧ b.toInt ≤ c.toInt) := ⟨fun h => by
  rcases h with h | h | h | h | h | h | h | h | h | h | h | h | h | h | h
  all_goals first | exact h.2 | exact absurd (hk.symm.trans h.1) (by decide), fun h => Or.inr (Or.inl ⟨hk, h⟩)⟩
theorem okP_2 {k a b c d e : Int32} (hk : k.toInt = 2) : okP k a b c d e ↔ (V6 a ∧ V6 b ∧ V6 c) := ⟨fun h => by
  rcases h with h | h | h | h | h | h | h | h | h | h | h | h | h | h | h
  all_goals first | exact h.2 | exact absurd (hk.symm.trans h.1) (by decide), fun h => Or.inr (Or.inr (Or.inl ⟨hk, h⟩))⟩
theorem okP_3 {k a b c d e : Int32} (hk : k.toInt = 3) : okP k a b c d e ↔ (V6 a ∧ V6 b ∧ V6 c) := ⟨fun h => by
  rcases h with h | h | h | h | h | h | h | h | h | h | h | h | h | h | h
  all_goals first | exact h.2 | exact absurd (hk.symm.trans h.1) (by decide), fun h => Or.inr (Or.inr (Or.inr (Or.inl ⟨hk, h⟩)))⟩
theorem okP_4 {k a b c d e : Int32} (hk : k.toInt = 4) : okP k a b c d e ↔ (V6 a ∧ V3 b ∧ V6 c) := ⟨fun h => by
  rcases h with h | h | h | h | h | h | h | h | h | h | h | h | h | h | h
  all_goals first | exact h.2 | exact absurd (hk.symm.trans h.1) (by decide), fun h => Or.inr (Or.inr (Or.inr (Or.inr (Or.inl ⟨hk, h⟩))))⟩
theorem okP_5 {k a b c d e : Int32} (hk : k.toInt = 5) : okP k a b c d e ↔ (V6 a) := ⟨fun h => by
  rcases h with h | h | h | h | h | h | h | h | h | h | h | h | h | h | h
  all_goals first | exact h.2 | exact absurd (hk.symm.trans h.1) (by decide), fun h => Or.inr (Or.inr (Or.inr (Or.inr (Or.inr (Or.inl ⟨hk, h⟩)))))⟩
theorem okP_6 {k a b c d e : Int32} (hk : k.toInt = 6) : okP k a b c d e ↔ (V6 a ∧ V6 b) := ⟨fun h => by
  rcases h with h | h | h | h | h | h | h | h | h | h | h | h | h | h | h
  all_goals first | exact h.2 | exact absurd (hk.symm.trans h.1) (by decide), fun h => Or.inr (Or.inr (Or.inr (Or.inr (Or.inr (Or.inr (Or.inl ⟨hk, h⟩))))))⟩
theorem okP_7 {k a b c d e : Int32} (hk : k.toInt = 7) : okP k a b c d e ↔ (V6 a ∧ V6 b ∧ V6 c) := ⟨fun h => by
  rcases h with h | h | h | h | h | h | h | h | h | h | h | h | h | h | h
  all_goals first | exact h.2 | exact absurd (hk.symm.trans h.1) (by decide), fun h => Or.inr (Or.inr (Or.inr (Or.inr (Or.inr (Or.inr (Or.inr (Or.inl ⟨hk, h⟩)))))))⟩
theorem okP_8 {k a b c d e : Int32} (hk : k.toInt = 8) : okP k a b c d e ↔ (V6 a ∧ V6 b) := ⟨fun h => by
  rcases h with h | h | h | h | h | h | h | h | h | h | h | h | h | h | h
  all_goals first | exact h.2 | exact absurd (hk.symm.trans h.1) (by decide), fun h => Or.inr (Or.inr (Or.inr (Or.inr (Or.inr (Or.inr (Or.inr (Or.inr (Or.inl ⟨hk, h⟩))))))))⟩
theorem okP_9 {k a b c d e : Int32} (hk : k.toInt = 9) : okP k a b c d e ↔ (V6 a ∧ V3 b ∧ V6 c ∧ V6 d) := ⟨fun h => by
  rcases h with h | h | h | h | h | h | h | h | h | h | h | h | h | h | h
  all_goals first | exact h.2 | exact absurd (hk.symm.trans h.1) (by decide), fun h => Or.inr (Or.inr (Or.inr (Or.inr (Or.inr (Or.inr (Or.inr (Or.inr (Or.inr (Or.inl ⟨hk, h⟩)))))))))⟩
theorem okP_10 {k a b c d e : Int32} (hk : k.toInt = 10) : okP k a b c d e ↔ (V6 a ∧ V6 b ∧ V3 c ∧ V6 d) := ⟨fun h => by
  rcases h with h | h | h | h | h | h | h | h | h | h | h | h | h | h | h
  all_goals first | exact h.2 | exact absurd (hk.symm.trans h.1) (by decide), fun h => Or.inr (Or.inr (Or.inr (Or.inr (Or.inr (Or.inr (Or.inr (Or.inr (Or.inr (Or.inr (Or.inl ⟨hk, h⟩))))))))))⟩
theorem okP_11 {k a b c d e : Int32} (hk : k.toInt = 11) : okP k a b c d e ↔ (V6 a ∧ V6 b ∧ V6 c ∧ V6 d ∧ V6 e) := ⟨fun h => by
  rcases h with h | h | h | h | h | h | h | h | h | h | h | h | h | h | h
  all_goals first | exact h.2 | exact absurd (hk.symm.trans h.1) (by decide), fun h => Or.inr (Or.inr (Or.inr (Or.inr (Or.inr (Or.inr (Or.inr (Or.inr (Or.inr (Or.inr (Or.inr (Or.inl ⟨hk, h⟩)))))))))))⟩
theorem okP_12 {k a b c d e : Int32} (hk : k.toInt = 12) : okP k a b c d e ↔ (V6 a ∧ V3 b ∧ V6 c ∧ V6 d ∧ V6 e) := ⟨fun h => by
  rcases h with h | h | h | h | h | h | h | h | h | h | h | h | h | h | h
  all_goals first | exact h.2 | exact absurd (hk.symm.trans h.1) (by decide), fun h => Or.inr (Or.inr (Or.inr (Or.inr (Or.inr (Or.inr (Or.inr (Or.inr (Or.inr (Or.inr (Or.inr (Or.inr (Or.inl ⟨hk, h⟩))))))))))))⟩
theorem okP_13 {k a b c d e : Int32} (hk : k.toInt = 13) : okP k a b c d e ↔ (V6 a ∧ V6 b) := ⟨fun h => by
  rcases h with h | h | h | h | h | h | h | h | h | h | h | h | h | h | h
  all_goals first | exact h.2 | exact absurd (hk.symm.trans h.1) (by decide), fun h => Or.inr (Or.inr (Or.inr (Or.inr (Or.inr (Or.inr (Or.inr (Or.inr (Or.inr (Or.inr (Or.inr (Or.inr (Or.inr (Or.inl ⟨hk, h⟩)))))))))))))⟩
theorem okP_14 {k a b c d e : Int32} (hk : k.toInt = 14) : okP k a b c d e ↔ (1 ≤ b.toInt ∧ b.toInt ≤ 10) := ⟨fun h => by
  rcases h with h | h | h | h | h | h | h | h | h | h | h | h | h | h | h
  all_goals first | exact h.2 | exact absurd (hk.symm.trans h.1) (by decide), fun h => Or.inr (Or.inr (Or.inr (Or.inr (Or.inr (Or.inr (Or.inr (Or.inr (Or.inr (Or.inr (Or.inr (Or.inr (Or.inr (Or.inr (⟨hk, h⟩))))))))))))))⟩
theorem okP_out {k a b c d e : Int32} (hk : k.toInt < 0 ∨ 14 < k.toInt) : ¬ okP k a b c d e := fun h => by
  rcases h with h | h | h | h | h | h | h | h | h | h | h | h | h | h | h
  all_goals (have := h.1; omega)
theorem v6_in {x : Int32} (h : V6 x) : vp_in x 6 := vp_in_iff.mpr ⟨h.1, by have := h.2; omega⟩
theorem v6_in12 {x : Int32} (h : V6 x) : vp_in x 12 := vp_in_iff.mpr ⟨h.1, by have := h.2; omega⟩
theorem v6_cl {x : Int32} (h : V6 x) : x.toNatClampNeg < 6 := by
  obtain ⟨j, hj, rfl⟩ := vp_in_of (v6_in h) (by decide)
  rw [nI_clamp (by omega)]; exact hj
theorem ov_v6 (g : Nat → Int32) {x : Int32} (v : Int32) (h : V6 x) : ov g 6 v x.toNatClampNeg = v := ov_in g v (v6_cl h)
theorem ovL_v6 (g : Nat → Int64) {x : Int32} (v : Int64) (h : V6 x) : ovL g 6 v x.toNatClampNeg = v := ovL_in g v (v6_cl h)
theorem v6_nI {i : Nat} (h : i < 6) : V6 (nI i) := by
  have h1 := nI_toInt (n := i) (by omega)
  constructor <;> omega
/-- an answer that is A where P holds, and B where it doesn't -/
def two (r : Int32) (P : Prop) (A B : Int32) : Prop := (r = A ∧ P) ∨ (r = B ∧ ¬ P)
theorem two_z {r : Int32} {P : Prop} (h : two r P 1 0) (c : r = 0) : ¬ P := by
  rcases h with ⟨h, -⟩ | ⟨-, h⟩
  · rw [h] at c; exact absurd c (by decide)
  · exact h
theorem two_nz {r : Int32} {P : Prop} (h : two r P 1 0) (c : ¬ r = 0) : P := by
  rcases h with ⟨-, h⟩ | ⟨h, -⟩
  · exact h
  · exact absurd h c
theorem two_eq {r r' : Int32} {P : Prop} {A B : Int32} (h : two r P A B) (h' : two r' P A B) : r = r' := by
  rcases h with ⟨a, b⟩ | ⟨a, b⟩ <;> rcases h' with ⟨c, d⟩ | ⟨c, d⟩
  · rw [a, c]
  · exact absurd b d
  · exact absurd d b
  · rw [a, c]
theorem lt_i {x y : Int32} (h : x < y) : x.toInt < y.toInt := Int32.lt_iff_toInt_lt.mp h
theorem le_i {x y : Int32} (h : x ≤ y) : x.toInt ≤ y.toInt := Int32.le_iff_toInt_le.mp h
theorem nlt_i {x y : Int32} (h : ¬ x < y) : y.toInt ≤ x.toInt := Int.not_lt.mp (fun q => h (Int32.lt_iff_toInt_lt.mpr q))
theorem nle_i {x y : Int32} (h : ¬ x ≤ y) : y.toInt < x.toInt := Int.not_le.mp (fun q => h (Int32.le_iff_toInt_le.mpr q))
theorem shr0 (y : Int64) : (0 : Int64) >>> y = 0 := by
  rw [← Int64.toBitVec_inj]
  simp [Int64.toBitVec_shiftRight]
abbrev ty3 (cI cJ cZ : ClassId) : List (ClassId × FieldType) := [(cI, .int), (cJ, .long), (cZ, .boolean)]
/-- the links between nest mates that are walked -/
def nwAll (U : State) : Prop := va_Nw (.methodLinkNest RX4 9 yX3_init RX4) U ∧ va_Nw (.methodLinkNest RX4 18 yX1_init RX4) U ∧ va_Nw (.methodLinkNest RX1 11 yX0_init RX4) U ∧ va_Nw (.methodLinkNest RX3 23 yX4_isVariable RX4) U ∧ va_Nw (.methodLinkNest RX3 27 yX4_isNumber RX4) U ∧ va_Nw (.methodLinkNest RX3 30 yX4_isReference RX4) U ∧ va_Nw (.methodLinkNest RX3 33 yX4_isLane RX4) U
theorem nwAll.warm {s U : State} (hW : s.WarmedH U.vm) (h : nwAll s) : nwAll U := ⟨va_Nw.warmM hW h.1, va_Nw.warmM hW h.2.1, va_Nw.warmM hW h.2.2.1, va_Nw.warmM hW h.2.2.2.1, va_Nw.warmM hW h.2.2.2.2.1, va_Nw.warmM hW h.2.2.2.2.2.1, va_Nw.warmM hW h.2.2.2.2.2.2⟩
theorem nwAll.same {u U : State} (e : u.vm = U.vm) (h : nwAll u) : nwAll U := ⟨va_Nw.same rfl e h.1, va_Nw.same rfl e h.2.1, va_Nw.same rfl e h.2.2.1, va_Nw.same rfl e h.2.2.2.1, va_Nw.same rfl e h.2.2.2.2.1, va_Nw.same rfl e h.2.2.2.2.2.1, va_Nw.same rfl e h.2.2.2.2.2.2⟩
def cPre (dC : Nat → ClassId) (dI : Nat → Nat → Nat) (cI cJ cZ : ClassId) (sz : Nat) (ws : va_W) (U : State) : Prop := U.heap.size = sz ∧ va_P (dC, dI) vwCl ws U.heap ∧ va_K (dC, dI) vwCl (ty3 cI cJ cZ) U ∧ va_D (fun _ => True) ws ∧ nwAll U
abbrev cPost (dC : Nat → ClassId) (dI : Nat → Nat → Nat) (cI cJ cZ : ClassId) (A : Nat → Prop) (ws : va_W) (t : State) : Prop := va_P (dC, dI) vwCl ws t.heap ∧ va_K (dC, dI) vwCl (ty3 cI cJ cZ) t ∧ va_D A ws
theorem cPre_blind {dC : Nat → ClassId} {dI : Nat → Nat → Nat} {cI cJ cZ : ClassId} {sz : Nat} {ws : va_W} {av : List Value} : FrameBlind (va_Pc av (cPre dC dI cI cJ cZ sz ws)) := by
  intro a U g mk q
  obtain ⟨q0, q1, qP, qK, qD, qN⟩ := q
  exact ⟨q0, q1, qP, va_K.moved (u := U) (U := U.calling g mk a) (Vm.Alike.refl U.vm) qK, qD, nwAll.same (u := U) (U := U.calling g mk a) rfl qN⟩
theorem cPre_of {dC : Nat → ClassId} {dI : Nat → Nat → Nat} {cI cJ cZ : ClassId} {wc : va_W} {av : List Value} {s : State} {H : Heap} {A : Nat → Prop} (hK : va_K (dC, dI) vwCl (ty3 cI cJ cZ) s) (hN : nwAll s) (hP : va_P (dC, dI) vwCl wc H) (hD : va_D A wc) : ∀ U : State, U.heap = H → s.WarmedH U.vm → va_Pc av (cPre dC dI cI cJ cZ H.size wc) av.toArray U := by
  intro U hU hW
  exact ⟨rfl, by rw [hU], by rw [hU]; exact hP, va_K.moved hW.alike hK, hD.weaken (fun _ _ _ _ => trivial), hN.warm hW⟩
section MYR
variable {p : Program} {l : Launch} {e : Env} {R : Room} {s : State} {m : MethodId} {args : Array Value} {below : List Frame} {meth : Method} {c : Code} {H : Heap} {locs : List Loc} {cells slots : Nat} {Q : State → Prop}
variable {cc : ByteArray} {pc : Nat} {ls : Array Slot} {rest : List Value} {D : va_G} {cl : List vw_C} {A : Nat → Prop} {ws : va_W} {H0 : Heap}
theorem my_topi {x y : Int32} (h : x = y) (k : W p l e R s m args below meth c H locs cells slots Q (F0 m pc ls (.int y :: rest))) : W p l e R s m args below meth c H locs cells slots Q (F0 m pc ls (.int x :: rest)) := h ▸ k
theorem my_topl {x y : Int64} (h : x = y) (k : W p l e R s m args below meth c H locs cells slots Q (F0 m pc ls (.long y :: rest))) : W p l e R s m args below meth c H locs cells slots Q (F0 m pc ls (.long x :: rest)) := h ▸ k
theorem my_newaI {cI cJ cZ : ClassId} (hexec : p.tables.exec = Jvm.exec) (hb : c.code = cc) (harr : (Cond.arrayClass .int).before args s = true) (hK : va_K D cl (ty3 cI cJ cZ) s) (hP : va_P D cl ws H) (hD : va_D A ws) (hS : va_S A H0 H locs) (hA : ∀ q, H0.size ≤ q → A q)
    {n : Int32} {N' : Nat} (hn : ¬ n < 0) (hN : n.toNatClampNeg = N') (hbytes : N' * componentBytes .int ≤ 536870912) (hcells : cells + 1 ≤ R.cells) (hslots : slots + N' ≤ R.slots) (hdg : decode cc pc = .ok (.newarray .int, 2))
    (kk : ∀ (q : Nat) (H1 : Heap), va_P D cl (ws ++ [(q, .inl (cI, N', .inl (fun _ => 0)))]) H1 → va_D A (ws ++ [(q, .inl (cI, N', .inl (fun _ => 0)))]) → va_S A H0 H1 locs →
      W p l e R s m args below meth c H1 locs (cells + 1) (slots + N') Q (F0 m (pc + 2) ls (.ref q :: rest))) : W p l e R s m args below meth c H locs cells slots Q (F0 m pc ls (.int n :: rest)) := by
  refine va_newa (atype := .int) (ty := .int) hexec hb harr rfl hK hP hD hS hA (a0 := (N', .inl (fun _ => 0))) (fun cA => rfl) hn hN hbytes hcells hslots hdg (fun q cA H1 hK1 hP1 hD1 hS1 => ?_)
  have e1 := va_nm_int (hK.2 0 (cI, .int) rfl).2
  have e2 := va_nm_int (hK1.2 3 (cA, .int) rfl).2
  have e3 : cI = cA := Option.some.inj (e1.symm.trans e2)
  subst e3
  exact kk q H1 hP1 hD1 hS1
theorem my_newaJ {cI cJ cZ : ClassId} (hexec : p.tables.exec = Jvm.exec) (hb : c.code = cc) (harr : (Cond.arrayClass .long).before args s = true) (hK : va_K D cl (ty3 cI cJ cZ) s) (hP : va_P D cl ws H) (hD : va_D A ws) (hS : va_S A H0 H locs) (hA : ∀ q, H0.size ≤ q → A q)
    {n : Int32} {N' : Nat} (hn : ¬ n < 0) (hN : n.toNatClampNeg = N') (hbytes : N' * componentBytes .long ≤ 536870912) (hcells : cells + 1 ≤ R.cells) (hslots : slots + N' ≤ R.slots) (hdg : decode cc pc = .ok (.newarray .long, 2))
    (kk : ∀ (q : Nat) (H1 : Heap), va_P D cl (ws ++ [(q, .inl (cJ, N', .inr (.inl (fun _ => 0))))]) H1 → va_D A (ws ++ [(q, .inl (cJ, N', .inr (.inl (fun _ => 0))))]) → va_S A H0 H1 locs →
      W p l e R s m args below meth c H1 locs (cells + 1) (slots + N') Q (F0 m (pc + 2) ls (.ref q :: rest))) : W p l e R s m args below meth c H locs cells slots Q (F0 m pc ls (.int n :: rest)) := by
  refine va_newa (atype := .long) (ty := .long) hexec hb harr rfl hK hP hD hS hA (a0 := (N', .inr (.inl (fun _ => 0)))) (fun cA => rfl) hn hN hbytes hcells hslots hdg (fun q cA H1 hK1 hP1 hD1 hS1 => ?_)
  have e1 := va_nm_long (hK.2 1 (cJ, .long) rfl).2
  have e2 := va_nm_long (hK1.2 3 (cA, .long) rfl).2
  have e3 : cJ = cA := Option.some.inj (e1.symm.trans e2)
  subst e3
  exact kk q H1 hP1 hD1 hS1
theorem my_newaZ {cI cJ cZ : ClassId} (hexec : p.tables.exec = Jvm.exec) (hb : c.code = cc) (harr : (Cond.arrayClass .boolean).before args s = true) (hK : va_K D cl (ty3 cI cJ cZ) s) (hP : va_P D cl ws H) (hD : va_D A ws) (hS : va_S A H0 H locs) (hA : ∀ q, H0.size ≤ q → A q)
    {n : Int32} {N' : Nat} (hn : ¬ n < 0) (hN : n.toNatClampNeg = N') (hbytes : N' * componentBytes .boolean ≤ 536870912) (hcells : cells + 1 ≤ R.cells) (hslots : slots + N' ≤ R.slots) (hdg : decode cc pc = .ok (.newarray .boolean, 2))
    (kk : ∀ (q : Nat) (H1 : Heap), va_P D cl (ws ++ [(q, .inl (cZ, N', .inl (fun _ => 0)))]) H1 → va_D A (ws ++ [(q, .inl (cZ, N', .inl (fun _ => 0)))]) → va_S A H0 H1 locs →
      W p l e R s m args below meth c H1 locs (cells + 1) (slots + N') Q (F0 m (pc + 2) ls (.ref q :: rest))) : W p l e R s m args below meth c H locs cells slots Q (F0 m pc ls (.int n :: rest)) := by
  refine va_newa (atype := .boolean) (ty := .boolean) hexec hb harr rfl hK hP hD hS hA (a0 := (N', .inl (fun _ => 0))) (fun cA => rfl) hn hN hbytes hcells hslots hdg (fun q cA H1 hK1 hP1 hD1 hS1 => ?_)
  have e1 := va_nm_boolean (hK.2 2 (cZ, .boolean) rfl).2
  have e2 := va_nm_boolean (hK1.2 3 (cA, .boolean) rfl).2
  have e3 : cZ = cA := Option.some.inj (e1.symm.trans e2)
  subst e3
  exact kk q H1 hP1 hD1 hS1
/-- a loop that counts from 0 up to N: the world and the locals at its head are told by the count -/
theorem my_loop {nL : Nat} (N : Nat) (wld : Nat → va_W) (loc : Nat → List (Nat × Value)) {st : List Value}
    (hP : va_P D cl (wld 0) H) (hD : va_D A (wld 0)) (hS : va_S A H0 H locs) (hl : lv_has ls nL (loc 0))
    (ex : ∀ (H : Heap) (locs : List Loc) (ls : Array Slot), va_P D cl (wld N) H → va_D A (wld N) → va_S A H0 H locs → lv_has ls nL (loc N) → W p l e R s m args below meth c H locs cells slots Q (F0 m pc ls st))
    (step : ∀ i : Nat, i < N → (∀ (H : Heap) (locs : List Loc) (ls : Array Slot), va_P D cl (wld (i + 1)) H → va_D A (wld (i + 1)) → va_S A H0 H locs → lv_has ls nL (loc (i + 1)) → W p l e R s m args below meth c H locs cells slots Q (F0 m pc ls st)) →
      ∀ (H : Heap) (locs : List Loc) (ls : Array Slot), va_P D cl (wld i) H → va_D A (wld i) → va_S A H0 H locs → lv_has ls nL (loc i) → W p l e R s m args below meth c H locs cells slots Q (F0 m pc ls st)) :
    W p l e R s m args below meth c H locs cells slots Q (F0 m pc ls st) := by
  have key : ∀ (n i : Nat), i + n = N → ∀ (H : Heap) (locs : List Loc) (ls : Array Slot), va_P D cl (wld i) H → va_D A (wld i) → va_S A H0 H locs → lv_has ls nL (loc i) → W p l e R s m args below meth c H locs cells slots Q (F0 m pc ls st) := by
    intro n
    induction n with
    | zero => intro i hi; have hi : i = N := by omega
              subst hi; exact ex
    | succ n ih => intro i hi; exact step i (by omega) (ih (i + 1) (by omega))
  exact key N 0 (by omega) H locs ls hP hD hS hl
end MYR
end
section
def w_X4_isVariable : List Cond := .code yX4_isVariable cX4_isVariable 1 (some .boolean) :: ([])
set_option maxHeartbeats 4000000 in
set_option maxRecDepth 100000 in
theorem c_X4_isVariable (l : Launch) (xa : Int32) : Met l yX4_isVariable w_X4_isVariable ({ frames := 0, cells := 0, slots := 0, locals := 0 }) (va_Pc [.int xa] (fun _ => True)) (vp_Si (fun (r : Int32) => two r (V6 xa) 1 0)) 0 0 (fun _ => False) := by
  refine Met.ofW (cc := cX4_isVariable) (maxL := 1) (ret := (some .boolean)) (by decide) rfl ?_
  intro p e s m args below meth c s₁ B hml hv
  obtain ⟨rfl, -⟩ := hv
  have hx := B.exec
  have hb := B.bytes
  have hr := B.returns
  have hts := atoms_spec (ws := w_X4_isVariable) B.pre
  have hown : s.vm.findClass RX4 = some m.cls := findClass_of_methodNamed B.named
  have hlocks := B.notSynchronized
  have hl := lv_entry ([.int xa]) (n := 1) (Nat.le_of_ble_eq_true rfl)
  rw [lg_entry_eq]
  generalize (lg_sl ([.int xa]) ++ List.replicate (1 - (lg_sl ([.int xa])).length) Slot.unset).toArray = ls at hl ⊢
  replace hl : lv_has ls 1 [(0, .int xa)] := hl
  refine lv_iload_n hx hb dX4_isVariable_0 rfl (lv_at hl 0 rfl) ?_
  refine lv_if_lt (tgt := 14) hx hb dX4_isVariable_1 (by decide) (fun c_1 => ?_) (fun c_1 => ?_)
  · -- yes
    have k_1 : (xa.toInt : Int) < (0 : Int) := by first | exact lt_i c_1 | simpa using lt_i c_1
    refine lv_iconst (v := 0) hx hb dX4_isVariable_14 (by decide) ?_
    exact W.zret (v := 0) (ty := .boolean) hx hb hr rfl (fun t ht hW => ⟨0, rfl, (by refine Or.inr ⟨rfl, ?_⟩; first | assumption | omega), ht⟩) (by intro q hq; cases hq) dX4_isVariable_15
  · -- no
    have k_1 : (0 : Int) ≤ (xa.toInt : Int) := by first | exact nlt_i c_1 | simpa using nlt_i c_1
    refine lv_iload_n hx hb dX4_isVariable_4 rfl (lv_at hl 0 rfl) ?_
    refine lv_bipush (v := 6) hx hb dX4_isVariable_5 (by decide) ?_
    refine lv_icmp_ge (tgt := 14) hx hb dX4_isVariable_7 (by decide) (fun c_2 => ?_) (fun c_2 => ?_)
    · -- yes
      have k_2 : (6 : Int) ≤ (xa.toInt : Int) := by first | exact le_i c_2 | simpa using le_i c_2
      refine lv_iconst (v := 0) hx hb dX4_isVariable_14 (by decide) ?_
      exact W.zret (v := 0) (ty := .boolean) hx hb hr rfl (fun t ht hW => ⟨0, rfl, (by refine Or.inr ⟨rfl, ?_⟩; first | assumption | omega), ht⟩) (by intro q hq; cases hq) dX4_isVariable_15
    · -- no
      have k_2 : (xa.toInt : Int) < (6 : Int) := by first | exact nle_i c_2 | simpa using nle_i c_2
      refine lv_iconst (v := 1) hx hb dX4_isVariable_10 (by decide) ?_
      refine lv_goto (tgt := 15) hx hb dX4_isVariable_11 (by decide) ?_
      exact W.zret (v := 1) (ty := .boolean) hx hb hr rfl (fun t ht hW => ⟨1, rfl, (by refine Or.inl ⟨rfl, ?_⟩; first | assumption | omega), ht⟩) (by intro q hq; cases hq) dX4_isVariable_15

def w_X4_isReference : List Cond := .code yX4_isReference cX4_isReference 1 (some .boolean) :: ([])
set_option maxHeartbeats 4000000 in
set_option maxRecDepth 100000 in
theorem c_X4_isReference (l : Launch) (xa : Int32) : Met l yX4_isReference w_X4_isReference ({ frames := 0, cells := 0, slots := 0, locals := 0 }) (va_Pc [.int xa] (fun _ => True)) (vp_Si (fun (r : Int32) => two r (V6 xa) 1 0)) 0 0 (fun _ => False) := by
  refine Met.ofW (cc := cX4_isReference) (maxL := 1) (ret := (some .boolean)) (by decide) rfl ?_
  intro p e s m args below meth c s₁ B hml hv
  obtain ⟨rfl, -⟩ := hv
  have hx := B.exec
  have hb := B.bytes
  have hr := B.returns
  have hts := atoms_spec (ws := w_X4_isReference) B.pre
  have hown : s.vm.findClass RX4 = some m.cls := findClass_of_methodNamed B.named
  have hlocks := B.notSynchronized
  have hl := lv_entry ([.int xa]) (n := 1) (Nat.le_of_ble_eq_true rfl)
  rw [lg_entry_eq]
  generalize (lg_sl ([.int xa]) ++ List.replicate (1 - (lg_sl ([.int xa])).length) Slot.unset).toArray = ls at hl ⊢
  replace hl : lv_has ls 1 [(0, .int xa)] := hl
  refine lv_iload_n hx hb dX4_isReference_0 rfl (lv_at hl 0 rfl) ?_
  refine lv_if_lt (tgt := 14) hx hb dX4_isReference_1 (by decide) (fun c_1 => ?_) (fun c_1 => ?_)
  · -- yes
    have k_1 : (xa.toInt : Int) < (0 : Int) := by first | exact lt_i c_1 | simpa using lt_i c_1
    refine lv_iconst (v := 0) hx hb dX4_isReference_14 (by decide) ?_
    exact W.zret (v := 0) (ty := .boolean) hx hb hr rfl (fun t ht hW => ⟨0, rfl, (by refine Or.inr ⟨rfl, ?_⟩; first | assumption | omega), ht⟩) (by intro q hq; cases hq) dX4_isReference_15
  · -- no
    have k_1 : (0 : Int) ≤ (xa.toInt : Int) := by first | exact nlt_i c_1 | simpa using nlt_i c_1
    refine lv_iload_n hx hb dX4_isReference_4 rfl (lv_at hl 0 rfl) ?_
    refine lv_bipush (v := 6) hx hb dX4_isReference_5 (by decide) ?_
    refine lv_icmp_ge (tgt := 14) hx hb dX4_isReference_7 (by decide) (fun c_2 => ?_) (fun c_2 => ?_)
    · -- yes
      have k_2 : (6 : Int) ≤ (xa.toInt : Int) := by first | exact le_i c_2 | simpa using le_i c_2
      refine lv_iconst (v := 0) hx hb dX4_isReference_14 (by decide) ?_
      exact W.zret (v := 0) (ty := .boolean) hx hb hr rfl (fun t ht hW => ⟨0, rfl, (by refine Or.inr ⟨rfl, ?_⟩; first | assumption | omega), ht⟩) (by intro q hq; cases hq) dX4_isReference_15
    · -- no
      have k_2 : (xa.toInt : Int) < (6 : Int) := by first | exact nle_i c_2 | simpa using nle_i c_2
      refine lv_iconst (v := 1) hx hb dX4_isReference_10 (by decide) ?_
      refine lv_goto (tgt := 15) hx hb dX4_isReference_11 (by decide) ?_
      exact W.zret (v := 1) (ty := .boolean) hx hb hr rfl (fun t ht hW => ⟨1, rfl, (by refine Or.inl ⟨rfl, ?_⟩; first | assumption | omega), ht⟩) (by intro q hq; cases hq) dX4_isReference_15

def w_X5_isName : List Cond := .code yX5_isName cX5_isName 1 (some .boolean) :: ([])
set_option maxHeartbeats 4000000 in
set_option maxRecDepth 100000 in
theorem c_X5_isName (l : Launch) (xa : Int32) : Met l yX5_isName w_X5_isName ({ frames := 0, cells := 0, slots := 0, locals := 0 }) (va_Pc [.int xa] (fun _ => True)) (vp_Si (fun (r : Int32) => two r (V6 xa) 1 0)) 0 0 (fun _ => False) := by
  refine Met.ofW (cc := cX5_isName) (maxL := 1) (ret := (some .boolean)) (by decide) rfl ?_
  intro p e s m args below meth c s₁ B hml hv
  obtain ⟨rfl, -⟩ := hv
  have hx := B.exec
  have hb := B.bytes
  have hr := B.returns
  have hts := atoms_spec (ws := w_X5_isName) B.pre
  have hown : s.vm.findClass RX5 = some m.cls := findClass_of_methodNamed B.named
  have hlocks := B.notSynchronized
  have hl := lv_entry ([.int xa]) (n := 1) (Nat.le_of_ble_eq_true rfl)
  rw [lg_entry_eq]
  generalize (lg_sl ([.int xa]) ++ List.replicate (1 - (lg_sl ([.int xa])).length) Slot.unset).toArray = ls at hl ⊢
  replace hl : lv_has ls 1 [(0, .int xa)] := hl
  refine lv_iload_n hx hb dX5_isName_0 rfl (lv_at hl 0 rfl) ?_
  refine lv_if_lt (tgt := 14) hx hb dX5_isName_1 (by decide) (fun c_1 => ?_) (fun c_1 => ?_)
  · -- yes
    have k_1 : (xa.toInt : Int) < (0 : Int) := by first | exact lt_i c_1 | simpa using lt_i c_1
    refine lv_iconst (v := 0) hx hb dX5_isName_14 (by decide) ?_
    exact W.zret (v := 0) (ty := .boolean) hx hb hr rfl (fun t ht hW => ⟨0, rfl, (by refine Or.inr ⟨rfl, ?_⟩; first | assumption | omega), ht⟩) (by intro q hq; cases hq) dX5_isName_15
  · -- no
    have k_1 : (0 : Int) ≤ (xa.toInt : Int) := by first | exact nlt_i c_1 | simpa using nlt_i c_1
    refine lv_iload_n hx hb dX5_isName_4 rfl (lv_at hl 0 rfl) ?_
    refine lv_bipush (v := 6) hx hb dX5_isName_5 (by decide) ?_
    refine lv_icmp_ge (tgt := 14) hx hb dX5_isName_7 (by decide) (fun c_2 => ?_) (fun c_2 => ?_)
    · -- yes
      have k_2 : (6 : Int) ≤ (xa.toInt : Int) := by first | exact le_i c_2 | simpa using le_i c_2
      refine lv_iconst (v := 0) hx hb dX5_isName_14 (by decide) ?_
      exact W.zret (v := 0) (ty := .boolean) hx hb hr rfl (fun t ht hW => ⟨0, rfl, (by refine Or.inr ⟨rfl, ?_⟩; first | assumption | omega), ht⟩) (by intro q hq; cases hq) dX5_isName_15
    · -- no
      have k_2 : (xa.toInt : Int) < (6 : Int) := by first | exact nle_i c_2 | simpa using nle_i c_2
      refine lv_iconst (v := 1) hx hb dX5_isName_10 (by decide) ?_
      refine lv_goto (tgt := 15) hx hb dX5_isName_11 (by decide) ?_
      exact W.zret (v := 1) (ty := .boolean) hx hb hr rfl (fun t ht hW => ⟨1, rfl, (by refine Or.inl ⟨rfl, ?_⟩; first | assumption | omega), ht⟩) (by intro q hq; cases hq) dX5_isName_15

def w_X4_isLane : List Cond := .code yX4_isLane cX4_isLane 1 (some .boolean) :: ([])
set_option maxHeartbeats 4000000 in
set_option maxRecDepth 100000 in
theorem c_X4_isLane (l : Launch) (xa : Int32) : Met l yX4_isLane w_X4_isLane ({ frames := 0, cells := 0, slots := 0, locals := 0 }) (va_Pc [.int xa] (fun _ => True)) (vp_Si (fun (r : Int32) => two r (V3 xa) 1 0)) 0 0 (fun _ => False) := by
  refine Met.ofW (cc := cX4_isLane) (maxL := 1) (ret := (some .boolean)) (by decide) rfl ?_
  intro p e s m args below meth c s₁ B hml hv
  obtain ⟨rfl, -⟩ := hv
  have hx := B.exec
  have hb := B.bytes
  have hr := B.returns
  have hts := atoms_spec (ws := w_X4_isLane) B.pre
  have hown : s.vm.findClass RX4 = some m.cls := findClass_of_methodNamed B.named
  have hlocks := B.notSynchronized
  have hl := lv_entry ([.int xa]) (n := 1) (Nat.le_of_ble_eq_true rfl)
  rw [lg_entry_eq]
  generalize (lg_sl ([.int xa]) ++ List.replicate (1 - (lg_sl ([.int xa])).length) Slot.unset).toArray = ls at hl ⊢
  replace hl : lv_has ls 1 [(0, .int xa)] := hl
  refine lv_iload_n hx hb dX4_isLane_0 rfl (lv_at hl 0 rfl) ?_
  refine lv_if_lt (tgt := 13) hx hb dX4_isLane_1 (by decide) (fun c_1 => ?_) (fun c_1 => ?_)
  · -- yes
    have k_1 : (xa.toInt : Int) < (0 : Int) := by first | exact lt_i c_1 | simpa using lt_i c_1
    refine lv_iconst (v := 0) hx hb dX4_isLane_13 (by decide) ?_
    exact W.zret (v := 0) (ty := .boolean) hx hb hr rfl (fun t ht hW => ⟨0, rfl, (by refine Or.inr ⟨rfl, ?_⟩; first | assumption | omega), ht⟩) (by intro q hq; cases hq) dX4_isLane_14
  · -- no
    have k_1 : (0 : Int) ≤ (xa.toInt : Int) := by first | exact nlt_i c_1 | simpa using nlt_i c_1
    refine lv_iload_n hx hb dX4_isLane_4 rfl (lv_at hl 0 rfl) ?_
    refine lv_iconst (v := 3) hx hb dX4_isLane_5 (by decide) ?_
    refine lv_icmp_ge (tgt := 13) hx hb dX4_isLane_6 (by decide) (fun c_2 => ?_) (fun c_2 => ?_)
    · -- yes
      have k_2 : (3 : Int) ≤ (xa.toInt : Int) := by first | exact le_i c_2 | simpa using le_i c_2
      refine lv_iconst (v := 0) hx hb dX4_isLane_13 (by decide) ?_
      exact W.zret (v := 0) (ty := .boolean) hx hb hr rfl (fun t ht hW => ⟨0, rfl, (by refine Or.inr ⟨rfl, ?_⟩; first | assumption | omega), ht⟩) (by intro q hq; cases hq) dX4_isLane_14
    · -- no
      have k_2 : (xa.toInt : Int) < (3 : Int) := by first | exact nle_i c_2 | simpa using nle_i c_2
      refine lv_iconst (v := 1) hx hb dX4_isLane_9 (by decide) ?_
      refine lv_goto (tgt := 14) hx hb dX4_isLane_10 (by decide) ?_
      exact W.zret (v := 1) (ty := .boolean) hx hb hr rfl (fun t ht hW => ⟨1, rfl, (by refine Or.inl ⟨rfl, ?_⟩; first | assumption | omega), ht⟩) (by intro q hq; cases hq) dX4_isLane_14

def w_X5_isLane : List Cond := .code yX5_isLane cX5_isLane 1 (some .boolean) :: ([])
set_option maxHeartbeats 4000000 in
set_option maxRecDepth 100000 in
theorem c_X5_isLane (l : Launch) (xa : Int32) : Met l yX5_isLane w_X5_isLane ({ frames := 0, cells := 0, slots := 0, locals := 0 }) (va_Pc [.int xa] (fun _ => True)) (vp_Si (fun (r : Int32) => two r (V3 xa) 1 0)) 0 0 (fun _ => False) := by
  refine Met.ofW (cc := cX5_isLane) (maxL := 1) (ret := (some .boolean)) (by decide) rfl ?_
  intro p e s m args below meth c s₁ B hml hv
  obtain ⟨rfl, -⟩ := hv
  have hx := B.exec
  have hb := B.bytes
  have hr := B.returns
  have hts := atoms_spec (ws := w_X5_isLane) B.pre
  have hown : s.vm.findClass RX5 = some m.cls := findClass_of_methodNamed B.named
  have hlocks := B.notSynchronized
  have hl := lv_entry ([.int xa]) (n := 1) (Nat.le_of_ble_eq_true rfl)
  rw [lg_entry_eq]
  generalize (lg_sl ([.int xa]) ++ List.replicate (1 - (lg_sl ([.int xa])).length) Slot.unset).toArray = ls at hl ⊢
  replace hl : lv_has ls 1 [(0, .int xa)] := hl
  refine lv_iload_n hx hb dX5_isLane_0 rfl (lv_at hl 0 rfl) ?_
  refine lv_if_lt (tgt := 13) hx hb dX5_isLane_1 (by decide) (fun c_1 => ?_) (fun c_1 => ?_)
  · -- yes
    have k_1 : (xa.toInt : Int) < (0 : Int) := by first | exact lt_i c_1 | simpa using lt_i c_1
    refine lv_iconst (v := 0) hx hb dX5_isLane_13 (by decide) ?_
    exact W.zret (v := 0) (ty := .boolean) hx hb hr rfl (fun t ht hW => ⟨0, rfl, (by refine Or.inr ⟨rfl, ?_⟩; first | assumption | omega), ht⟩) (by intro q hq; cases hq) dX5_isLane_14
  · -- no
    have k_1 : (0 : Int) ≤ (xa.toInt : Int) := by first | exact nlt_i c_1 | simpa using nlt_i c_1
    refine lv_iload_n hx hb dX5_isLane_4 rfl (lv_at hl 0 rfl) ?_
    refine lv_iconst (v := 3) hx hb dX5_isLane_5 (by decide) ?_
    refine lv_icmp_ge (tgt := 13) hx hb dX5_isLane_6 (by decide) (fun c_2 => ?_) (fun c_2 => ?_)
    · -- yes
      have k_2 : (3 : Int) ≤ (xa.toInt : Int) := by first | exact le_i c_2 | simpa using le_i c_2
      refine lv_iconst (v := 0) hx hb dX5_isLane_13 (by decide) ?_
      exact W.zret (v := 0) (ty := .boolean) hx hb hr rfl (fun t ht hW => ⟨0, rfl, (by refine Or.inr ⟨rfl, ?_⟩; first | assumption | omega), ht⟩) (by intro q hq; cases hq) dX5_isLane_14
    · -- no
      have k_2 : (xa.toInt : Int) < (3 : Int) := by first | exact nle_i c_2 | simpa using nle_i c_2
      refine lv_iconst (v := 1) hx hb dX5_isLane_9 (by decide) ?_
      refine lv_goto (tgt := 14) hx hb dX5_isLane_10 (by decide) ?_
      exact W.zret (v := 1) (ty := .boolean) hx hb hr rfl (fun t ht hW => ⟨1, rfl, (by refine Or.inl ⟨rfl, ?_⟩; first | assumption | omega), ht⟩) (by intro q hq; cases hq) dX5_isLane_14

def w_X4_isNumber : List Cond := .code yX4_isNumber cX4_isNumber 1 (some .boolean) :: ([.constant RX4 204 (-1000000), .constant RX4 205 (1000000)])
set_option maxHeartbeats 4000000 in
set_option maxRecDepth 100000 in
theorem c_X4_isNumber (l : Launch) (xa : Int32) : Met l yX4_isNumber w_X4_isNumber ({ frames := 0, cells := 0, slots := 0, locals := 0 }) (va_Pc [.int xa] (fun _ => True)) (vp_Si (fun (r : Int32) => two r (VN xa) 1 0)) 0 0 (fun _ => False) := by
  refine Met.ofW (cc := cX4_isNumber) (maxL := 1) (ret := (some .boolean)) (by decide) rfl ?_
  intro p e s m args below meth c s₁ B hml hv
  obtain ⟨rfl, -⟩ := hv
  have hx := B.exec
  have hb := B.bytes
  have hr := B.returns
  have hts := atoms_spec (ws := w_X4_isNumber) B.pre
  have hown : s.vm.findClass RX4 = some m.cls := findClass_of_methodNamed B.named
  have hlocks := B.notSynchronized
  have hl := lv_entry ([.int xa]) (n := 1) (Nat.le_of_ble_eq_true rfl)
  rw [lg_entry_eq]
  generalize (lg_sl ([.int xa]) ++ List.replicate (1 - (lg_sl ([.int xa])).length) Slot.unset).toArray = ls at hl ⊢
  replace hl : lv_has ls 1 [(0, .int xa)] := hl
  refine lv_iload_n hx hb dX4_isNumber_0 rfl (lv_at hl 0 rfl) ?_
  refine lv_ldc hx hb hown (hts (.constant RX4 204 (-1000000)) (List.mem_of_getElem? (i := 1) rfl)) dX4_isNumber_1 ?_
  refine lv_icmp_lt (tgt := 16) hx hb dX4_isNumber_3 (by decide) (fun c_1 => ?_) (fun c_1 => ?_)
  · -- yes
    have k_1 : (xa.toInt : Int) < (-1000000 : Int) := by first | exact lt_i c_1 | simpa using lt_i c_1
    refine lv_iconst (v := 0) hx hb dX4_isNumber_16 (by decide) ?_
    exact W.zret (v := 0) (ty := .boolean) hx hb hr rfl (fun t ht hW => ⟨0, rfl, (by refine Or.inr ⟨rfl, ?_⟩; first | assumption | omega), ht⟩) (by intro q hq; cases hq) dX4_isNumber_17
  · -- no
    have k_1 : (-1000000 : Int) ≤ (xa.toInt : Int) := by first | exact nlt_i c_1 | simpa using nlt_i c_1
    refine lv_iload_n hx hb dX4_isNumber_6 rfl (lv_at hl 0 rfl) ?_
    refine lv_ldc hx hb hown (hts (.constant RX4 205 (1000000)) (List.mem_of_getElem? (i := 2) rfl)) dX4_isNumber_7 ?_
    refine lv_icmp_gt (tgt := 16) hx hb dX4_isNumber_9 (by decide) (fun c_2 => ?_) (fun c_2 => ?_)
    · -- yes
      have k_2 : (1000000 : Int) < (xa.toInt : Int) := by first | exact lt_i c_2 | simpa using lt_i c_2
      refine lv_iconst (v := 0) hx hb dX4_isNumber_16 (by decide) ?_
      exact W.zret (v := 0) (ty := .boolean) hx hb hr rfl (fun t ht hW => ⟨0, rfl, (by refine Or.inr ⟨rfl, ?_⟩; first | assumption | omega), ht⟩) (by intro q hq; cases hq) dX4_isNumber_17
    · -- no
      have k_2 : (xa.toInt : Int) ≤ (1000000 : Int) := by first | exact nlt_i c_2 | simpa using nlt_i c_2
      refine lv_iconst (v := 1) hx hb dX4_isNumber_12 (by decide) ?_
      refine lv_goto (tgt := 17) hx hb dX4_isNumber_13 (by decide) ?_
      exact W.zret (v := 1) (ty := .boolean) hx hb hr rfl (fun t ht hW => ⟨1, rfl, (by refine Or.inl ⟨rfl, ?_⟩; first | assumption | omega), ht⟩) (by intro q hq; cases hq) dX4_isNumber_17

def w_X5_isNumber : List Cond := .code yX5_isNumber cX5_isNumber 1 (some .boolean) :: ([.constant RX5 113 (-1000000), .constant RX5 114 (1000000)])
set_option maxHeartbeats 4000000 in
set_option maxRecDepth 100000 in
theorem c_X5_isNumber (l : Launch) (xa : Int32) : Met l yX5_isNumber w_X5_isNumber ({ frames := 0, cells := 0, slots := 0, locals := 0 }) (va_Pc [.int xa] (fun _ => True)) (vp_Si (fun (r : Int32) => two r (VN xa) 1 0)) 0 0 (fun _ => False) := by
  refine Met.ofW (cc := cX5_isNumber) (maxL := 1) (ret := (some .boolean)) (by decide) rfl ?_
  intro p e s m args below meth c s₁ B hml hv
  obtain ⟨rfl, -⟩ := hv
  have hx := B.exec
  have hb := B.bytes
  have hr := B.returns
  have hts := atoms_spec (ws := w_X5_isNumber) B.pre
  have hown : s.vm.findClass RX5 = some m.cls := findClass_of_methodNamed B.named
  have hlocks := B.notSynchronized
  have hl := lv_entry ([.int xa]) (n := 1) (Nat.le_of_ble_eq_true rfl)
  rw [lg_entry_eq]
  generalize (lg_sl ([.int xa]) ++ List.replicate (1 - (lg_sl ([.int xa])).length) Slot.unset).toArray = ls at hl ⊢
  replace hl : lv_has ls 1 [(0, .int xa)] := hl
  refine lv_iload_n hx hb dX5_isNumber_0 rfl (lv_at hl 0 rfl) ?_
  refine lv_ldc hx hb hown (hts (.constant RX5 113 (-1000000)) (List.mem_of_getElem? (i := 1) rfl)) dX5_isNumber_1 ?_
  refine lv_icmp_lt (tgt := 16) hx hb dX5_isNumber_3 (by decide) (fun c_1 => ?_) (fun c_1 => ?_)
  · -- yes
    have k_1 : (xa.toInt : Int) < (-1000000 : Int) := by first | exact lt_i c_1 | simpa using lt_i c_1
    refine lv_iconst (v := 0) hx hb dX5_isNumber_16 (by decide) ?_
    exact W.zret (v := 0) (ty := .boolean) hx hb hr rfl (fun t ht hW => ⟨0, rfl, (by refine Or.inr ⟨rfl, ?_⟩; first | assumption | omega), ht⟩) (by intro q hq; cases hq) dX5_isNumber_17
  · -- no
    have k_1 : (-1000000 : Int) ≤ (xa.toInt : Int) := by first | exact nlt_i c_1 | simpa using nlt_i c_1
    refine lv_iload_n hx hb dX5_isNumber_6 rfl (lv_at hl 0 rfl) ?_
    refine lv_ldc hx hb hown (hts (.constant RX5 114 (1000000)) (List.mem_of_getElem? (i := 2) rfl)) dX5_isNumber_7 ?_
    refine lv_icmp_gt (tgt := 16) hx hb dX5_isNumber_9 (by decide) (fun c_2 => ?_) (fun c_2 => ?_)
    · -- yes
      have k_2 : (1000000 : Int) < (xa.toInt : Int) := by first | exact lt_i c_2 | simpa using lt_i c_2
      refine lv_iconst (v := 0) hx hb dX5_isNumber_16 (by decide) ?_
      exact W.zret (v := 0) (ty := .boolean) hx hb hr rfl (fun t ht hW => ⟨0, rfl, (by refine Or.inr ⟨rfl, ?_⟩; first | assumption | omega), ht⟩) (by intro q hq; cases hq) dX5_isNumber_17
    · -- no
      have k_2 : (xa.toInt : Int) ≤ (1000000 : Int) := by first | exact nlt_i c_2 | simpa using nlt_i c_2
      refine lv_iconst (v := 1) hx hb dX5_isNumber_12 (by decide) ?_
      refine lv_goto (tgt := 17) hx hb dX5_isNumber_13 (by decide) ?_
      exact W.zret (v := 1) (ty := .boolean) hx hb hr rfl (fun t ht hW => ⟨1, rfl, (by refine Or.inl ⟨rfl, ?_⟩; first | assumption | omega), ht⟩) (by intro q hq; cases hq) dX5_isNumber_17
end
section
def w_X3_hasAct : List Cond := .code yX3_hasAct cX3_hasAct 2 (some .boolean) :: ([.fieldLink RX3 19 "ArraySegments$Program" "count" "I"] ++ wsX30)
theorem inc_X3_hasAct_X3 : ∀ w ∈ wsX30, w ∈ w_X3_hasAct := fun _ h => List.mem_cons_of_mem _ (List.mem_append_right _ h)
abbrev pw_X3_hasAct (cI cJ cZ : ClassId) (ph : Nat) (pv_rows : Value) (pv_dropped : Value) (ia : Int32) : va_W := [(ph, .inr (3, [pv_rows, pv_dropped, .int 0]))]
set_option maxHeartbeats 4000000 in
set_option maxRecDepth 100000 in
theorem c_X3_hasAct (l : Launch) (dC : Nat → ClassId) (dI : Nat → Nat → Nat) (cI cJ cZ : ClassId) (ph : Nat) (pv_rows : Value) (pv_dropped : Value) (ia : Int32) (sz : Nat) : Met l yX3_hasAct w_X3_hasAct ({ frames := 0, cells := 0, slots := 0, locals := 0 }) (va_Pc [.ref ph, .int ia] (cPre dC dI cI cJ cZ sz (pw_X3_hasAct cI cJ cZ ph pv_rows pv_dropped ia))) (va_Qi (fun (r : Int32) (u : Nat → Nat) => r = 0) (fun (u : Nat → Nat) => cPost dC dI cI cJ cZ (va_A (pw_X3_hasAct cI cJ cZ ph pv_rows pv_dropped ia) sz) [(ph, .inr (3, [pv_rows, pv_dropped, .int 0]))]) (va_A (pw_X3_hasAct cI cJ cZ ph pv_rows pv_dropped ia) sz)) 0 0 (va_A (pw_X3_hasAct cI cJ cZ ph pv_rows pv_dropped ia) sz) := by
  refine Met.ofW (cc := cX3_hasAct) (maxL := 2) (ret := (some .boolean)) (by decide) rfl ?_
  intro p e s m args below meth c s₁ B hml hv
  obtain ⟨rfl, hsz, hP, hK, hD0, hN⟩ := hv
  have hx := B.exec
  have hb := B.bytes
  have hr := B.returns
  have hts := atoms_spec (ws := w_X3_hasAct) B.pre
  have hown : s.vm.findClass RX3 = some m.cls := findClass_of_methodNamed B.named
  have hlocks := B.notSynchronized
  subst hsz
  have hD := hD0.self (sz := s.heap.size)
  generalize hAe : va_A (pw_X3_hasAct cI cJ cZ ph pv_rows pv_dropped ia) s.heap.size = A at hD ⊢
  have hA : ∀ q : Nat, s.heap.size ≤ q → A q := fun q h => by rw [← hAe]; exact Or.inr h
  clear hAe hD0
  have hS : va_S A s.heap s.heap [] := va_S.rf
  replace hP : va_P (dC, dI) vwCl [(ph, .inr (3, [pv_rows, pv_dropped, .int 0]))] s.heap := hP
  replace hD : va_D A [(ph, .inr (3, [pv_rows, pv_dropped, .int 0]))] := hD
  have hl := lv_entry ([.ref ph, .int ia]) (n := 2) (Nat.le_of_ble_eq_true rfl)
  rw [lg_entry_eq]
  generalize (lg_sl ([.ref ph, .int ia]) ++ List.replicate (2 - (lg_sl ([.ref ph, .int ia])).length) Slot.unset).toArray = ls at hl ⊢
  replace hl : lv_has ls 2 [(0, .ref ph), (1, .int ia)] := hl
  refine lv_iload_n hx hb dX3_hasAct_0 rfl (lv_at hl 1 rfl) ?_
  refine lv_if_lt (tgt := 22) hx hb dX3_hasAct_1 (by decide) (fun c_1 => ?_) (fun c_1 => ?_)
  · -- yes
    have k_1 : (ia.toInt : Int) < (0 : Int) := by first | exact lt_i c_1 | simpa using lt_i c_1
    refine lv_iconst (v := 0) hx hb dX3_hasAct_22 (by decide) ?_
    have hP9 := hP.sub (ws' := [(ph, .inr (3, [pv_rows, pv_dropped, .int 0]))]) [0] rfl
    have hD9 := hD.sub (ws' := [(ph, .inr (3, [pv_rows, pv_dropped, .int 0]))]) [0] (by decide) rfl
    exact W.zret (v := 0) (ty := .boolean) hx hb hr rfl (fun t ht hW => ⟨⟨0, (fun _ => 0), rfl, rfl, by rw [ht]; exact hP9, va_K.moved hW.alike hK, hD9⟩, hS.F ht⟩) hS.2.2 dX3_hasAct_23
  · -- no
    have k_1 : (0 : Int) ≤ (ia.toInt : Int) := by first | exact nlt_i c_1 | simpa using nlt_i c_1
    refine lv_iload_n hx hb dX3_hasAct_4 rfl (lv_at hl 1 rfl) ?_
    refine lv_aload_n hx hb dX3_hasAct_5 rfl (lv_at hl 0 rfl) ?_
    refine va_get (D := (dC, dI)) (ci := 3) (v := .int 0) (C := RX3) (T := TX3) (N := 3) hx hb hts inc_X3_hasAct_X3 hown hK hP 0 rfl rfl 2 (by decide) (hts (.fieldLink RX3 19 "ArraySegments$Program" "count" "I") (List.mem_of_getElem? (i := 1) rfl)) (fun _ h9 => h9) rfl dX3_hasAct_6 ?_
    refine lv_icmp_ge (tgt := 22) hx hb dX3_hasAct_9 (by decide) (fun c_2 => ?_) (fun c_2 => ?_)
    · -- yes
      have k_2 : (0 : Int) ≤ (ia.toInt : Int) := by first | exact le_i c_2 | simpa using le_i c_2
      refine lv_iconst (v := 0) hx hb dX3_hasAct_22 (by decide) ?_
      have hP9 := hP.sub (ws' := [(ph, .inr (3, [pv_rows, pv_dropped, .int 0]))]) [0] rfl
      have hD9 := hD.sub (ws' := [(ph, .inr (3, [pv_rows, pv_dropped, .int 0]))]) [0] (by decide) rfl
      exact W.zret (v := 0) (ty := .boolean) hx hb hr rfl (fun t ht hW => ⟨⟨0, (fun _ => 0), rfl, rfl, by rw [ht]; exact hP9, va_K.moved hW.alike hK, hD9⟩, hS.F ht⟩) hS.2.2 dX3_hasAct_23
    · -- no
      have k_2 : (ia.toInt : Int) < (0 : Int) := by first | exact nle_i c_2 | simpa using nle_i c_2
      exfalso; omega

def w_X3_append : List Cond := .code yX3_append cX3_append 8 (some .int) :: ([.fieldLink RX3 19 "ArraySegments$Program" "count" "I", .fieldLink RX3 11 "ArraySegments$Program" "rows" "[I", .fieldLink RX3 15 "ArraySegments$Program" "dropped" "[Z"] ++ wsX30)
theorem inc_X3_append_X3 : ∀ w ∈ wsX30, w ∈ w_X3_append := fun _ h => List.mem_cons_of_mem _ (List.mem_append_right _ h)
abbrev pw_X3_append (cI cJ cZ : ClassId) (ph : Nat) (pr : Nat) (pd : Nat) (rf : Nat → Int32) (df : Nat → Int32) (ka : Int32) (aa : Int32) (ba : Int32) (ca : Int32) (da : Int32) (ea : Int32) : va_W := [(ph, .inr (3, [.ref pr, .ref pd, .int 0])), (pr, .inl (cI, 240, .inl rf)), (pd, .inl (cZ, 40, .inl df))]
set_option maxHeartbeats 4000000 in
set_option maxRecDepth 100000 in
theorem c_X3_append (l : Launch) (dC : Nat → ClassId) (dI : Nat → Nat → Nat) (cI cJ cZ : ClassId) (ph : Nat) (pr : Nat) (pd : Nat) (rf : Nat → Int32) (df : Nat → Int32) (ka : Int32) (aa : Int32) (ba : Int32) (ca : Int32) (da : Int32) (ea : Int32) (sz : Nat) : Met l yX3_append w_X3_append ({ frames := 0, cells := 0, slots := 0, locals := 0 }) (va_Pc [.ref ph, .int ka, .int aa, .int ba, .int ca, .int da, .int ea] (cPre dC dI cI cJ cZ sz (pw_X3_append cI cJ cZ ph pr pd rf df ka aa ba ca da ea))) (va_Qi (fun (r : Int32) (u : Nat → Nat) => r = 0) (fun (u : Nat → Nat) => cPost dC dI cI cJ cZ (va_A (pw_X3_append cI cJ cZ ph pr pd rf df ka aa ba ca da ea) sz) []) (va_A (pw_X3_append cI cJ cZ ph pr pd rf df ka aa ba ca da ea) sz)) 0 0 (va_A (pw_X3_append cI cJ cZ ph pr pd rf df ka aa ba ca da ea) sz) := by
  refine Met.ofW (cc := cX3_append) (maxL := 8) (ret := (some .int)) (by decide) rfl ?_
  intro p e s m args below meth c s₁ B hml hv
  obtain ⟨rfl, hsz, hP, hK, hD0, hN⟩ := hv
  have hx := B.exec
  have hb := B.bytes
  have hr := B.returns
  have hts := atoms_spec (ws := w_X3_append) B.pre
  have hown : s.vm.findClass RX3 = some m.cls := findClass_of_methodNamed B.named
  have hlocks := B.notSynchronized
  subst hsz
  have hD := hD0.self (sz := s.heap.size)
  generalize hAe : va_A (pw_X3_append cI cJ cZ ph pr pd rf df ka aa ba ca da ea) s.heap.size = A at hD ⊢
  have hA : ∀ q : Nat, s.heap.size ≤ q → A q := fun q h => by rw [← hAe]; exact Or.inr h
  clear hAe hD0
  have hS : va_S A s.heap s.heap [] := va_S.rf
  replace hP : va_P (dC, dI) vwCl [(ph, .inr (3, [.ref pr, .ref pd, .int 0])), (pr, .inl (cI, 240, .inl rf)), (pd, .inl (cZ, 40, .inl df))] s.heap := hP
  replace hD : va_D A [(ph, .inr (3, [.ref pr, .ref pd, .int 0])), (pr, .inl (cI, 240, .inl rf)), (pd, .inl (cZ, 40, .inl df))] := hD
  have hl := lv_entry ([.ref ph, .int ka, .int aa, .int ba, .int ca, .int da, .int ea]) (n := 8) (Nat.le_of_ble_eq_true rfl)
  rw [lg_entry_eq]
  generalize (lg_sl ([.ref ph, .int ka, .int aa, .int ba, .int ca, .int da, .int ea]) ++ List.replicate (8 - (lg_sl ([.ref ph, .int ka, .int aa, .int ba, .int ca, .int da, .int ea])).length) Slot.unset).toArray = ls at hl ⊢
  replace hl : lv_has ls 8 [(0, .ref ph), (1, .int ka), (2, .int aa), (3, .int ba), (4, .int ca), (5, .int da), (6, .int ea)] := hl
  refine lv_aload_n hx hb dX3_append_0 rfl (lv_at hl 0 rfl) ?_
  refine va_get (D := (dC, dI)) (ci := 3) (v := .int 0) (C := RX3) (T := TX3) (N := 3) hx hb hts inc_X3_append_X3 hown hK hP 0 rfl rfl 2 (by decide) (hts (.fieldLink RX3 19 "ArraySegments$Program" "count" "I") (List.mem_of_getElem? (i := 1) rfl)) (fun _ h9 => h9) rfl dX3_append_1 ?_
  refine lv_bipush (v := 6) hx hb dX3_append_4 (by decide) ?_
  refine lv_imul hx hb dX3_append_6 ?_
  refine my_topi (y := 0) (by decide) ?_
  refine lv_istore (lv' := [(7, .int 0), (0, .ref ph), (1, .int ka), (2, .int aa), (3, .int ba), (4, .int ca), (5, .int da), (6, .int ea)]) hx hb dX3_append_7 hl (by decide) rfl (fun ls1 hl1 => ?_)
  replace hl := hl1; clear hl1
  refine lv_aload_n hx hb dX3_append_9 rfl (lv_at hl 1 rfl) ?_
  refine va_get (D := (dC, dI)) (ci := 3) (v := .ref pr) (C := RX3) (T := TX3) (N := 3) hx hb hts inc_X3_append_X3 hown hK hP 0 rfl rfl 0 (by decide) (hts (.fieldLink RX3 11 "ArraySegments$Program" "rows" "[I") (List.mem_of_getElem? (i := 2) rfl)) (fun _ h9 => h9) rfl dX3_append_10 ?_
  refine lv_iload hx hb dX3_append_13 (lv_at hl 0 rfl) ?_
  refine lv_iload_n hx hb dX3_append_15 rfl (lv_at hl 2 rfl) ?_
  refine va_iast hx hb hK hP hD hS 1 0 rfl rfl (vp_in_iff.mpr (by decide)) dX3_append_16 (fun H_1 locs_1 hP1 hD1 hS1 => ?_)
  rw [show upd rf (0 : Int32).toNatClampNeg ka = (upd rf 0 ka) from by rfl] at hP1 hD1
  replace hP : va_P (dC, dI) vwCl [(ph, .inr (3, [.ref pr, .ref pd, .int 0])), (pr, .inl (cI, 240, .inl (upd rf 0 ka))), (pd, .inl (cZ, 40, .inl df))] H_1 := hP1
  replace hD : va_D A [(ph, .inr (3, [.ref pr, .ref pd, .int 0])), (pr, .inl (cI, 240, .inl (upd rf 0 ka))), (pd, .inl (cZ, 40, .inl df))] := hD1
  replace hS := hS1
  clear hP1 hD1 hS1
  refine lv_aload_n hx hb dX3_append_17 rfl (lv_at hl 1 rfl) ?_
  refine va_get (D := (dC, dI)) (ci := 3) (v := .ref pr) (C := RX3) (T := TX3) (N := 3) hx hb hts inc_X3_append_X3 hown hK hP 0 rfl rfl 0 (by decide) (hts (.fieldLink RX3 11 "ArraySegments$Program" "rows" "[I") (List.mem_of_getElem? (i := 2) rfl)) (fun _ h9 => h9) rfl dX3_append_18 ?_
  refine lv_iload hx hb dX3_append_21 (lv_at hl 0 rfl) ?_
  refine lv_iconst (v := 1) hx hb dX3_append_23 (by decide) ?_
  refine lv_iadd hx hb dX3_append_24 ?_
  refine my_topi (y := 1) (by decide) ?_
  refine lv_iload_n hx hb dX3_append_25 rfl (lv_at hl 3 rfl) ?_
  refine va_iast hx hb hK hP hD hS 1 0 rfl rfl (vp_in_iff.mpr (by decide)) dX3_append_26 (fun H_2 locs_2 hP1 hD1 hS1 => ?_)
  rw [show upd (upd rf 0 ka) (1 : Int32).toNatClampNeg aa = (upd (upd rf 0 ka) 1 aa) from by rfl] at hP1 hD1
  replace hP : va_P (dC, dI) vwCl [(ph, .inr (3, [.ref pr, .ref pd, .int 0])), (pr, .inl (cI, 240, .inl (upd (upd rf 0 ka) 1 aa))), (pd, .inl (cZ, 40, .inl df))] H_2 := hP1
  replace hD : va_D A [(ph, .inr (3, [.ref pr, .ref pd, .int 0])), (pr, .inl (cI, 240, .inl (upd (upd rf 0 ka) 1 aa))), (pd, .inl (cZ, 40, .inl df))] := hD1
  replace hS := hS1
  clear hP1 hD1 hS1
  refine lv_aload_n hx hb dX3_append_27 rfl (lv_at hl 1 rfl) ?_
  refine va_get (D := (dC, dI)) (ci := 3) (v := .ref pr) (C := RX3) (T := TX3) (N := 3) hx hb hts inc_X3_append_X3 hown hK hP 0 rfl rfl 0 (by decide) (hts (.fieldLink RX3 11 "ArraySegments$Program" "rows" "[I") (List.mem_of_getElem? (i := 2) rfl)) (fun _ h9 => h9) rfl dX3_append_28 ?_
  refine lv_iload hx hb dX3_append_31 (lv_at hl 0 rfl) ?_
  refine lv_iconst (v := 2) hx hb dX3_append_33 (by decide) ?_
  refine lv_iadd hx hb dX3_append_34 ?_
  refine my_topi (y := 2) (by decide) ?_
  refine lv_iload_n hx hb dX3_append_35 rfl (lv_at hl 4 rfl) ?_
  refine va_iast hx hb hK hP hD hS 1 0 rfl rfl (vp_in_iff.mpr (by decide)) dX3_append_36 (fun H_3 locs_3 hP1 hD1 hS1 => ?_)
  rw [show upd (upd (upd rf 0 ka) 1 aa) (2 : Int32).toNatClampNeg ba = (upd (upd (upd rf 0 ka) 1 aa) 2 ba) from by rfl] at hP1 hD1
  replace hP : va_P (dC, dI) vwCl [(ph, .inr (3, [.ref pr, .ref pd, .int 0])), (pr, .inl (cI, 240, .inl (upd (upd (upd rf 0 ka) 1 aa) 2 ba))), (pd, .inl (cZ, 40, .inl df))] H_3 := hP1
  replace hD : va_D A [(ph, .inr (3, [.ref pr, .ref pd, .int 0])), (pr, .inl (cI, 240, .inl (upd (upd (upd rf 0 ka) 1 aa) 2 ba))), (pd, .inl (cZ, 40, .inl df))] := hD1
  replace hS := hS1
  clear hP1 hD1 hS1
  refine lv_aload_n hx hb dX3_append_37 rfl (lv_at hl 1 rfl) ?_
  refine va_get (D := (dC, dI)) (ci := 3) (v := .ref pr) (C := RX3) (T := TX3) (N := 3) hx hb hts inc_X3_append_X3 hown hK hP 0 rfl rfl 0 (by decide) (hts (.fieldLink RX3 11 "ArraySegments$Program" "rows" "[I") (List.mem_of_getElem? (i := 2) rfl)) (fun _ h9 => h9) rfl dX3_append_38 ?_
  refine lv_iload hx hb dX3_append_41 (lv_at hl 0 rfl) ?_
  refine lv_iconst (v := 3) hx hb dX3_append_43 (by decide) ?_
  refine lv_iadd hx hb dX3_append_44 ?_
  refine my_topi (y := 3) (by decide) ?_
  refine lv_iload hx hb dX3_append_45 (lv_at hl 5 rfl) ?_
  refine va_iast hx hb hK hP hD hS 1 0 rfl rfl (vp_in_iff.mpr (by decide)) dX3_append_47 (fun H_4 locs_4 hP1 hD1 hS1 => ?_)
  rw [show upd (upd (upd (upd rf 0 ka) 1 aa) 2 ba) (3 : Int32).toNatClampNeg ca = (upd (upd (upd (upd rf 0 ka) 1 aa) 2 ba) 3 ca) from by rfl] at hP1 hD1
  replace hP : va_P (dC, dI) vwCl [(ph, .inr (3, [.ref pr, .ref pd, .int 0])), (pr, .inl (cI, 240, .inl (upd (upd (upd (upd rf 0 ka) 1 aa) 2 ba) 3 ca))), (pd, .inl (cZ, 40, .inl df))] H_4 := hP1
  replace hD : va_D A [(ph, .inr (3, [.ref pr, .ref pd, .int 0])), (pr, .inl (cI, 240, .inl (upd (upd (upd (upd rf 0 ka) 1 aa) 2 ba) 3 ca))), (pd, .inl (cZ, 40, .inl df))] := hD1
  replace hS := hS1
  clear hP1 hD1 hS1
  refine lv_aload_n hx hb dX3_append_48 rfl (lv_at hl 1 rfl) ?_
  refine va_get (D := (dC, dI)) (ci := 3) (v := .ref pr) (C := RX3) (T := TX3) (N := 3) hx hb hts inc_X3_append_X3 hown hK hP 0 rfl rfl 0 (by decide) (hts (.fieldLink RX3 11 "ArraySegments$Program" "rows" "[I") (List.mem_of_getElem? (i := 2) rfl)) (fun _ h9 => h9) rfl dX3_append_49 ?_
  refine lv_iload hx hb dX3_append_52 (lv_at hl 0 rfl) ?_
  refine lv_iconst (v := 4) hx hb dX3_append_54 (by decide) ?_
  refine lv_iadd hx hb dX3_append_55 ?_
  refine my_topi (y := 4) (by decide) ?_
  refine lv_iload hx hb dX3_append_56 (lv_at hl 6 rfl) ?_
  refine va_iast hx hb hK hP hD hS 1 0 rfl rfl (vp_in_iff.mpr (by decide)) dX3_append_58 (fun H_5 locs_5 hP1 hD1 hS1 => ?_)
  rw [show upd (upd (upd (upd (upd rf 0 ka) 1 aa) 2 ba) 3 ca) (4 : Int32).toNatClampNeg da = (upd (upd (upd (upd (upd rf 0 ka) 1 aa) 2 ba) 3 ca) 4 da) from by rfl] at hP1 hD1
  replace hP : va_P (dC, dI) vwCl [(ph, .inr (3, [.ref pr, .ref pd, .int 0])), (pr, .inl (cI, 240, .inl (upd (upd (upd (upd (upd rf 0 ka) 1 aa) 2 ba) 3 ca) 4 da))), (pd, .inl (cZ, 40, .inl df))] H_5 := hP1
  replace hD : va_D A [(ph, .inr (3, [.ref pr, .ref pd, .int 0])), (pr, .inl (cI, 240, .inl (upd (upd (upd (upd (upd rf 0 ka) 1 aa) 2 ba) 3 ca) 4 da))), (pd, .inl (cZ, 40, .inl df))] := hD1
  replace hS := hS1
  clear hP1 hD1 hS1
  refine lv_aload_n hx hb dX3_append_59 rfl (lv_at hl 1 rfl) ?_
  refine va_get (D := (dC, dI)) (ci := 3) (v := .ref pr) (C := RX3) (T := TX3) (N := 3) hx hb hts inc_X3_append_X3 hown hK hP 0 rfl rfl 0 (by decide) (hts (.fieldLink RX3 11 "ArraySegments$Program" "rows" "[I") (List.mem_of_getElem? (i := 2) rfl)) (fun _ h9 => h9) rfl dX3_append_60 ?_
  refine lv_iload hx hb dX3_append_63 (lv_at hl 0 rfl) ?_
  refine lv_iconst (v := 5) hx hb dX3_append_65 (by decide) ?_
  refine lv_iadd hx hb dX3_append_66 ?_
  refine my_topi (y := 5) (by decide) ?_
  refine lv_iload hx hb dX3_append_67 (lv_at hl 7 rfl) ?_
  refine va_iast hx hb hK hP hD hS 1 0 rfl rfl (vp_in_iff.mpr (by decide)) dX3_append_69 (fun H_6 locs_6 hP1 hD1 hS1 => ?_)
  rw [show upd (upd (upd (upd (upd (upd rf 0 ka) 1 aa) 2 ba) 3 ca) 4 da) (5 : Int32).toNatClampNeg ea = (upd (upd (upd (upd (upd (upd rf 0 ka) 1 aa) 2 ba) 3 ca) 4 da) 5 ea) from by rfl] at hP1 hD1
  replace hP : va_P (dC, dI) vwCl [(ph, .inr (3, [.ref pr, .ref pd, .int 0])), (pr, .inl (cI, 240, .inl (upd (upd (upd (upd (upd (upd rf 0 ka) 1 aa) 2 ba) 3 ca) 4 da) 5 ea))), (pd, .inl (cZ, 40, .inl df))] H_6 := hP1
  replace hD : va_D A [(ph, .inr (3, [.ref pr, .ref pd, .int 0])), (pr, .inl (cI, 240, .inl (upd (upd (upd (upd (upd (upd rf 0 ka) 1 aa) 2 ba) 3 ca) 4 da) 5 ea))), (pd, .inl (cZ, 40, .inl df))] := hD1
  replace hS := hS1
  clear hP1 hD1 hS1
  refine lv_aload_n hx hb dX3_append_70 rfl (lv_at hl 1 rfl) ?_
  refine va_get (D := (dC, dI)) (ci := 3) (v := .ref pd) (C := RX3) (T := TX3) (N := 3) hx hb hts inc_X3_append_X3 hown hK hP 0 rfl rfl 1 (by decide) (hts (.fieldLink RX3 15 "ArraySegments$Program" "dropped" "[Z") (List.mem_of_getElem? (i := 3) rfl)) (fun _ h9 => h9) rfl dX3_append_71 ?_
  refine lv_aload_n hx hb dX3_append_74 rfl (lv_at hl 1 rfl) ?_
  refine va_get (D := (dC, dI)) (ci := 3) (v := .int 0) (C := RX3) (T := TX3) (N := 3) hx hb hts inc_X3_append_X3 hown hK hP 0 rfl rfl 2 (by decide) (hts (.fieldLink RX3 19 "ArraySegments$Program" "count" "I") (List.mem_of_getElem? (i := 1) rfl)) (fun _ h9 => h9) rfl dX3_append_75 ?_
  refine lv_iconst (v := 0) hx hb dX3_append_78 (by decide) ?_
  refine va_zast hx hb hK hP hD hS 2 2 rfl rfl (vp_in_iff.mpr (by decide)) dX3_append_79 (fun H_7 locs_7 hP1 hD1 hS1 => ?_)
  rw [show upd df (0 : Int32).toNatClampNeg (vp_nar .boolean 0) = (upd df 0 0) from by rfl] at hP1 hD1
  replace hP : va_P (dC, dI) vwCl [(ph, .inr (3, [.ref pr, .ref pd, .int 0])), (pr, .inl (cI, 240, .inl (upd (upd (upd (upd (upd (upd rf 0 ka) 1 aa) 2 ba) 3 ca) 4 da) 5 ea))), (pd, .inl (cZ, 40, .inl (upd df 0 0)))] H_7 := hP1
  replace hD : va_D A [(ph, .inr (3, [.ref pr, .ref pd, .int 0])), (pr, .inl (cI, 240, .inl (upd (upd (upd (upd (upd (upd rf 0 ka) 1 aa) 2 ba) 3 ca) 4 da) 5 ea))), (pd, .inl (cZ, 40, .inl (upd df 0 0)))] := hD1
  replace hS := hS1
  clear hP1 hD1 hS1
  refine lv_aload_n hx hb dX3_append_80 rfl (lv_at hl 1 rfl) ?_
  refine lv_dup hx hb dX3_append_81 rfl ?_
  refine va_get (D := (dC, dI)) (ci := 3) (v := .int 0) (C := RX3) (T := TX3) (N := 3) hx hb hts inc_X3_append_X3 hown hK hP 0 rfl rfl 2 (by decide) (hts (.fieldLink RX3 19 "ArraySegments$Program" "count" "I") (List.mem_of_getElem? (i := 1) rfl)) (fun _ h9 => h9) rfl dX3_append_82 ?_
  refine lv_iconst (v := 1) hx hb dX3_append_85 (by decide) ?_
  refine lv_iadd hx hb dX3_append_86 ?_
  refine my_topi (y := 1) (by decide) ?_
  refine va_put (D := (dC, dI)) (ci := 3) (v := .int 1) (ty := .int) (C := RX3) (T := TX3) (N := 3) hx hb hts inc_X3_append_X3 tyX3 tyX3_ok nmX3 hown hK hP hD hS 0 rfl rfl 2 (by decide) (hts (.fieldLink RX3 19 "ArraySegments$Program" "count" "I") (List.mem_of_getElem? (i := 1) rfl)) (fun _ h9 => h9) rfl (by decide +kernel) rfl rfl (Nat.le_of_ble_eq_true rfl) dX3_append_87 (fun H_8 locs_8 hP1 hD1 hS1 => ?_)
  replace hP : va_P (dC, dI) vwCl [(ph, .inr (3, [.ref pr, .ref pd, .int 1])), (pr, .inl (cI, 240, .inl (upd (upd (upd (upd (upd (upd rf 0 ka) 1 aa) 2 ba) 3 ca) 4 da) 5 ea))), (pd, .inl (cZ, 40, .inl (upd df 0 0)))] H_8 := hP1
  replace hD : va_D A [(ph, .inr (3, [.ref pr, .ref pd, .int 1])), (pr, .inl (cI, 240, .inl (upd (upd (upd (upd (upd (upd rf 0 ka) 1 aa) 2 ba) 3 ca) 4 da) 5 ea))), (pd, .inl (cZ, 40, .inl (upd df 0 0)))] := hD1
  replace hS := hS1
  clear hP1 hD1 hS1
  refine lv_aload_n hx hb dX3_append_90 rfl (lv_at hl 1 rfl) ?_
  refine va_get (D := (dC, dI)) (ci := 3) (v := .int 1) (C := RX3) (T := TX3) (N := 3) hx hb hts inc_X3_append_X3 hown hK hP 0 rfl rfl 2 (by decide) (hts (.fieldLink RX3 19 "ArraySegments$Program" "count" "I") (List.mem_of_getElem? (i := 1) rfl)) (fun _ h9 => h9) rfl dX3_append_91 ?_
  refine lv_iconst (v := 1) hx hb dX3_append_94 (by decide) ?_
  refine lv_isub hx hb dX3_append_95 ?_
  refine my_topi (y := 0) (by decide) ?_
  have hP9 := hP.sub (ws' := []) [] rfl
  have hD9 := hD.sub (ws' := []) [] (by decide) rfl
  exact W.iret (v := 0) hx hb hr (fun t ht hW => ⟨⟨0, (fun _ => 0), rfl, rfl, by rw [ht]; exact hP9, va_K.moved hW.alike hK, hD9⟩, hS.F ht⟩) hS.2.2 dX3_append_96

def w_X3_removeAll : List Cond := .code yX3_removeAll cX3_removeAll 1 none :: ([.fieldLink RX3 19 "ArraySegments$Program" "count" "I"] ++ wsX30)
theorem inc_X3_removeAll_X3 : ∀ w ∈ wsX30, w ∈ w_X3_removeAll := fun _ h => List.mem_cons_of_mem _ (List.mem_append_right _ h)
abbrev pw_X3_removeAll (cI cJ cZ : ClassId) (ph : Nat) (pv_rows : Value) (pv_dropped : Value) : va_W := [(ph, .inr (3, [pv_rows, pv_dropped, .int 0]))]
set_option maxHeartbeats 4000000 in
set_option maxRecDepth 100000 in
theorem c_X3_removeAll (l : Launch) (dC : Nat → ClassId) (dI : Nat → Nat → Nat) (cI cJ cZ : ClassId) (ph : Nat) (pv_rows : Value) (pv_dropped : Value) (sz : Nat) : Met l yX3_removeAll w_X3_removeAll ({ frames := 0, cells := 0, slots := 0, locals := 0 }) (va_Pc [.ref ph] (cPre dC dI cI cJ cZ sz (pw_X3_removeAll cI cJ cZ ph pv_rows pv_dropped))) (va_Qv (fun (u : Nat → Nat) => True) (fun (u : Nat → Nat) => cPost dC dI cI cJ cZ (va_A (pw_X3_removeAll cI cJ cZ ph pv_rows pv_dropped) sz) [(ph, .inr (3, [pv_rows, pv_dropped, .int 0]))]) (va_A (pw_X3_removeAll cI cJ cZ ph pv_rows pv_dropped) sz)) 0 0 (va_A (pw_X3_removeAll cI cJ cZ ph pv_rows pv_dropped) sz) := by
  refine Met.ofW (cc := cX3_removeAll) (maxL := 1) (ret := none) (by decide) rfl ?_
  intro p e s m args below meth c s₁ B hml hv
  obtain ⟨rfl, hsz, hP, hK, hD0, hN⟩ := hv
  have hx := B.exec
  have hb := B.bytes
  have hr := B.returns
  have hts := atoms_spec (ws := w_X3_removeAll) B.pre
  have hown : s.vm.findClass RX3 = some m.cls := findClass_of_methodNamed B.named
  have hlocks := B.notSynchronized
  subst hsz
  have hD := hD0.self (sz := s.heap.size)
  generalize hAe : va_A (pw_X3_removeAll cI cJ cZ ph pv_rows pv_dropped) s.heap.size = A at hD ⊢
  have hA : ∀ q : Nat, s.heap.size ≤ q → A q := fun q h => by rw [← hAe]; exact Or.inr h
  clear hAe hD0
  have hS : va_S A s.heap s.heap [] := va_S.rf
  replace hP : va_P (dC, dI) vwCl [(ph, .inr (3, [pv_rows, pv_dropped, .int 0]))] s.heap := hP
  replace hD : va_D A [(ph, .inr (3, [pv_rows, pv_dropped, .int 0]))] := hD
  have hl := lv_entry ([.ref ph]) (n := 1) (Nat.le_of_ble_eq_true rfl)
  rw [lg_entry_eq]
  generalize (lg_sl ([.ref ph]) ++ List.replicate (1 - (lg_sl ([.ref ph])).length) Slot.unset).toArray = ls at hl ⊢
  replace hl : lv_has ls 1 [(0, .ref ph)] := hl
  refine lv_aload_n hx hb dX3_removeAll_0 rfl (lv_at hl 0 rfl) ?_
  refine lv_iconst (v := 0) hx hb dX3_removeAll_1 (by decide) ?_
  refine va_put (D := (dC, dI)) (ci := 3) (v := .int 0) (ty := .int) (C := RX3) (T := TX3) (N := 3) hx hb hts inc_X3_removeAll_X3 tyX3 tyX3_ok nmX3 hown hK hP hD hS 0 rfl rfl 2 (by decide) (hts (.fieldLink RX3 19 "ArraySegments$Program" "count" "I") (List.mem_of_getElem? (i := 1) rfl)) (fun _ h9 => h9) rfl (by decide +kernel) rfl rfl (Nat.le_of_ble_eq_true rfl) dX3_removeAll_2 (fun H_1 locs_1 hP1 hD1 hS1 => ?_)
  replace hP : va_P (dC, dI) vwCl [(ph, .inr (3, [pv_rows, pv_dropped, .int 0]))] H_1 := hP1
  replace hD : va_D A [(ph, .inr (3, [pv_rows, pv_dropped, .int 0]))] := hD1
  replace hS := hS1
  clear hP1 hD1 hS1
  have hP9 := hP.sub (ws' := [(ph, .inr (3, [pv_rows, pv_dropped, .int 0]))]) [0] rfl
  have hD9 := hD.sub (ws' := [(ph, .inr (3, [pv_rows, pv_dropped, .int 0]))]) [0] (by decide) rfl
  exact W.vret hx hb hr (fun t ht hW => ⟨⟨(fun _ => 0), rfl, trivial, by rw [ht]; exact hP9, va_K.moved hW.alike hK, hD9⟩, hS.F ht⟩) hS.2.2 dX3_removeAll_5

def w_X3_countKept : List Cond := .code yX3_countKept cX3_countKept 3 (some .int) :: ([.fieldLink RX3 19 "ArraySegments$Program" "count" "I"] ++ wsX30)
theorem inc_X3_countKept_X3 : ∀ w ∈ wsX30, w ∈ w_X3_countKept := fun _ h => List.mem_cons_of_mem _ (List.mem_append_right _ h)
abbrev pw_X3_countKept (cI cJ cZ : ClassId) (ph : Nat) (pv_rows : Value) (pv_dropped : Value) : va_W := [(ph, .inr (3, [pv_rows, pv_dropped, .int 0]))]
set_option maxHeartbeats 4000000 in
set_option maxRecDepth 100000 in
theorem c_X3_countKept (l : Launch) (dC : Nat → ClassId) (dI : Nat → Nat → Nat) (cI cJ cZ : ClassId) (ph : Nat) (pv_rows : Value) (pv_dropped : Value) (sz : Nat) : Met l yX3_countKept w_X3_countKept ({ frames := 0, cells := 0, slots := 0, locals := 0 }) (va_Pc [.ref ph] (cPre dC dI cI cJ cZ sz (pw_X3_countKept cI cJ cZ ph pv_rows pv_dropped))) (va_Qi (fun (r : Int32) (u : Nat → Nat) => r = 0) (fun (u : Nat → Nat) => cPost dC dI cI cJ cZ (va_A (pw_X3_countKept cI cJ cZ ph pv_rows pv_dropped) sz) [(ph, .inr (3, [pv_rows, pv_dropped, .int 0]))]) (va_A (pw_X3_countKept cI cJ cZ ph pv_rows pv_dropped) sz)) 0 0 (va_A (pw_X3_countKept cI cJ cZ ph pv_rows pv_dropped) sz) := by
  refine Met.ofW (cc := cX3_countKept) (maxL := 3) (ret := (some .int)) (by decide) rfl ?_
  intro p e s m args below meth c s₁ B hml hv
  obtain ⟨rfl, hsz, hP, hK, hD0, hN⟩ := hv
  have hx := B.exec
  have hb := B.bytes
  have hr := B.returns
  have hts := atoms_spec (ws := w_X3_countKept) B.pre
  have hown : s.vm.findClass RX3 = some m.cls := findClass_of_methodNamed B.named
  have hlocks := B.notSynchronized
  subst hsz
  have hD := hD0.self (sz := s.heap.size)
  generalize hAe : va_A (pw_X3_countKept cI cJ cZ ph pv_rows pv_dropped) s.heap.size = A at hD ⊢
  have hA : ∀ q : Nat, s.heap.size ≤ q → A q := fun q h => by rw [← hAe]; exact Or.inr h
  clear hAe hD0
  have hS : va_S A s.heap s.heap [] := va_S.rf
  replace hP : va_P (dC, dI) vwCl [(ph, .inr (3, [pv_rows, pv_dropped, .int 0]))] s.heap := hP
  replace hD : va_D A [(ph, .inr (3, [pv_rows, pv_dropped, .int 0]))] := hD
  have hl := lv_entry ([.ref ph]) (n := 3) (Nat.le_of_ble_eq_true rfl)
  rw [lg_entry_eq]
  generalize (lg_sl ([.ref ph]) ++ List.replicate (3 - (lg_sl ([.ref ph])).length) Slot.unset).toArray = ls at hl ⊢
  replace hl : lv_has ls 3 [(0, .ref ph)] := hl
  refine lv_iconst (v := 0) hx hb dX3_countKept_0 (by decide) ?_
  refine lv_istore_n (lv' := [(1, .int 0), (0, .ref ph)]) hx hb dX3_countKept_1 rfl hl (by decide) rfl (fun ls1 hl1 => ?_)
  replace hl := hl1; clear hl1
  refine lv_iconst (v := 0) hx hb dX3_countKept_2 (by decide) ?_
  refine lv_istore_n (lv' := [(2, .int 0), (1, .int 0), (0, .ref ph)]) hx hb dX3_countKept_3 rfl hl (by decide) rfl (fun ls1 hl1 => ?_)
  replace hl := hl1; clear hl1
  refine lv_iload_n hx hb dX3_countKept_4 rfl (lv_at hl 0 rfl) ?_
  refine lv_aload_n hx hb dX3_countKept_5 rfl (lv_at hl 2 rfl) ?_
  refine va_get (D := (dC, dI)) (ci := 3) (v := .int 0) (C := RX3) (T := TX3) (N := 3) hx hb hts inc_X3_countKept_X3 hown hK hP 0 rfl rfl 2 (by decide) (hts (.fieldLink RX3 19 "ArraySegments$Program" "count" "I") (List.mem_of_getElem? (i := 1) rfl)) (fun _ h9 => h9) rfl dX3_countKept_6 ?_
  refine lv_icmp_ge (tgt := 30) hx hb dX3_countKept_9 (by decide) (fun c_1 => ?_) (fun c_1 => ?_)
  · -- on
    refine lv_iload_n hx hb dX3_countKept_30 rfl (lv_at hl 1 rfl) ?_
    have hP9 := hP.sub (ws' := [(ph, .inr (3, [pv_rows, pv_dropped, .int 0]))]) [0] rfl
    have hD9 := hD.sub (ws' := [(ph, .inr (3, [pv_rows, pv_dropped, .int 0]))]) [0] (by decide) rfl
    exact W.iret (v := 0) hx hb hr (fun t ht hW => ⟨⟨0, (fun _ => 0), rfl, rfl, by rw [ht]; exact hP9, va_K.moved hW.alike hK, hD9⟩, hS.F ht⟩) hS.2.2 dX3_countKept_31
  · exact absurd (by decide) c_1

def w_X3_init : List Cond := .code yX3_init cX3_init 1 none :: ([.methodLink RX3 3 objectInit, .instanceMethod objectInit, .code objectInit ⟨#[0xb1]⟩ 1 none, .arrayClass .int, .fieldLink RX3 11 "ArraySegments$Program" "rows" "[I", .arrayClass .boolean, .fieldLink RX3 15 "ArraySegments$Program" "dropped" "[Z", .fieldLink RX3 19 "ArraySegments$Program" "count" "I"] ++ wsX30)
theorem inc_X3_init_X3 : ∀ w ∈ wsX30, w ∈ w_X3_init := fun _ h => List.mem_cons_of_mem _ (List.mem_append_right _ h)
abbrev pw_X3_init (cI cJ cZ : ClassId) (ph : Nat) : va_W := [(ph, .inr (3, [.null, .null, .int 0]))]
set_option maxHeartbeats 4000000 in
set_option maxRecDepth 100000 in
theorem c_X3_init (l : Launch) (dC : Nat → ClassId) (dI : Nat → Nat → Nat) (cI cJ cZ : ClassId) (ph : Nat) (sz : Nat) : Met l yX3_init w_X3_init ({ frames := 1, cells := 2, slots := 280, locals := 12 }) (va_Pc [.ref ph] (cPre dC dI cI cJ cZ sz (pw_X3_init cI cJ cZ ph))) (va_Qv (fun (u : Nat → Nat) => True) (fun (u : Nat → Nat) => cPost dC dI cI cJ cZ (va_A (pw_X3_init cI cJ cZ ph) sz) [(ph, .inr (3, [.ref (u 0), .ref (u 1), .int 0])), ((u 0), .inl (cI, 240, .inl (fun _ => 0))), ((u 1), .inl (cZ, 40, .inl (fun _ => 0)))]) (va_A (pw_X3_init cI cJ cZ ph) sz)) 2 280 (va_A (pw_X3_init cI cJ cZ ph) sz) := by
  refine Met.ofW (cc := cX3_init) (maxL := 1) (ret := none) (by decide) rfl ?_
  intro p e s m args below meth c s₁ B hml hv
  obtain ⟨rfl, hsz, hP, hK, hD0, hN⟩ := hv
  have hx := B.exec
  have hb := B.bytes
  have hr := B.returns
  have hts := atoms_spec (ws := w_X3_init) B.pre
  have hown : s.vm.findClass RX3 = some m.cls := findClass_of_methodNamed B.named
  have hlocks := B.notSynchronized
  have hin : meth.name = "<init>" := (name_of_methodNamed B.named B.method).1
  subst hsz
  have hD := hD0.self (sz := s.heap.size)
  generalize hAe : va_A (pw_X3_init cI cJ cZ ph) s.heap.size = A at hD ⊢
  have hA : ∀ q : Nat, s.heap.size ≤ q → A q := fun q h => by rw [← hAe]; exact Or.inr h
  clear hAe hD0
  have hS : va_S A s.heap s.heap [] := va_S.rf
  replace hP : va_P (dC, dI) vwCl [(ph, .inr (3, [.null, .null, .int 0]))] s.heap := hP
  replace hD : va_D A [(ph, .inr (3, [.null, .null, .int 0]))] := hD
  have hl := lv_entry ([.ref ph]) (n := 1) (Nat.le_of_ble_eq_true rfl)
  rw [lg_entry_eq]
  generalize (lg_sl ([.ref ph]) ++ List.replicate (1 - (lg_sl ([.ref ph])).length) Slot.unset).toArray = ls at hl ⊢
  replace hl : lv_has ls 1 [(0, .ref ph)] := hl
  refine lv_aload_n hx hb dX3_init_0 rfl (lv_at hl 0 rfl) ?_
  refine W.objInit hx hb hown (hts (.methodLink RX3 3 objectInit) (List.mem_of_getElem? (i := 1) rfl)) (hts (.instanceMethod objectInit) (List.mem_of_getElem? (i := 2) rfl)) (hts (.code objectInit ⟨#[0xb1]⟩ 1 none) (List.mem_of_getElem? (i := 3) rfl)) rfl (by rw [hml]; exact hl.1) rfl dX3_init_1 (Nat.le_of_ble_eq_true rfl) (Nat.le_of_ble_eq_true rfl) ?_
  refine W.eq (g2 := F0 m 4 _ []) rfl ?_
  refine lv_aload_n hx hb dX3_init_4 rfl (lv_at hl 0 rfl) ?_
  refine lv_sipush (v := 240) hx hb dX3_init_5 (by decide) ?_
  refine my_newaI hx hb (hts (.arrayClass .int) (List.mem_of_getElem? (i := 4) rfl)) hK hP hD hS hA (N' := 240) (by decide) (by decide) (by decide) (Nat.le_of_ble_eq_true rfl) (Nat.le_of_ble_eq_true rfl) dX3_init_8 (fun q_1 H_1 hP1 hD1 hS1 => ?_)
  replace hP : va_P (dC, dI) vwCl [(ph, .inr (3, [.null, .null, .int 0])), (q_1, .inl (cI, 240, .inl (fun _ => 0)))] H_1 := hP1
  replace hD : va_D A [(ph, .inr (3, [.null, .null, .int 0])), (q_1, .inl (cI, 240, .inl (fun _ => 0)))] := hD1
  replace hS := hS1
  clear hP1 hD1 hS1
  refine W.widen (k := 1) (n := 240) (Nat.le_of_ble_eq_true rfl) (Nat.le_of_ble_eq_true rfl) ?_
  refine va_putF (D := (dC, dI)) (ci := 3) (v := .ref q_1) (ty := .array .int) (C := RX3) (T := TX3) (N := 3) hx hb hts inc_X3_init_X3 tyX3 tyX3_ok nmX3 hown hK hP hD hS 0 rfl rfl 0 (by decide) (hts (.fieldLink RX3 11 "ArraySegments$Program" "rows" "[I") (List.mem_of_getElem? (i := 5) rfl)) (fun _ h9 => h9) rfl hin rfl (by decide +kernel) rfl rfl (Nat.le_of_ble_eq_true rfl) dX3_init_10 (fun H_2 locs_2 hP1 hD1 hS1 => ?_)
  replace hP : va_P (dC, dI) vwCl [(ph, .inr (3, [.ref q_1, .null, .int 0])), (q_1, .inl (cI, 240, .inl (fun _ => 0)))] H_2 := hP1
  replace hD : va_D A [(ph, .inr (3, [.ref q_1, .null, .int 0])), (q_1, .inl (cI, 240, .inl (fun _ => 0)))] := hD1
  replace hS := hS1
  clear hP1 hD1 hS1
  refine lv_aload_n hx hb dX3_init_13 rfl (lv_at hl 0 rfl) ?_
  refine lv_bipush (v := 40) hx hb dX3_init_14 (by decide) ?_
  refine my_newaZ hx hb (hts (.arrayClass .boolean) (List.mem_of_getElem? (i := 6) rfl)) hK hP hD hS hA (N' := 40) (by decide) (by decide) (by decide) (Nat.le_of_ble_eq_true rfl) (Nat.le_of_ble_eq_true rfl) dX3_init_16 (fun q_3 H_3 hP1 hD1 hS1 => ?_)
  replace hP : va_P (dC, dI) vwCl [(ph, .inr (3, [.ref q_1, .null, .int 0])), (q_1, .inl (cI, 240, .inl (fun _ => 0))), (q_3, .inl (cZ, 40, .inl (fun _ => 0)))] H_3 := hP1
  replace hD : va_D A [(ph, .inr (3, [.ref q_1, .null, .int 0])), (q_1, .inl (cI, 240, .inl (fun _ => 0))), (q_3, .inl (cZ, 40, .inl (fun _ => 0)))] := hD1
  replace hS := hS1
  clear hP1 hD1 hS1
  refine W.widen (k := 2) (n := 280) (Nat.le_of_ble_eq_true rfl) (Nat.le_of_ble_eq_true rfl) ?_
  refine va_putF (D := (dC, dI)) (ci := 3) (v := .ref q_3) (ty := .array .boolean) (C := RX3) (T := TX3) (N := 3) hx hb hts inc_X3_init_X3 tyX3 tyX3_ok nmX3 hown hK hP hD hS 0 rfl rfl 1 (by decide) (hts (.fieldLink RX3 15 "ArraySegments$Program" "dropped" "[Z") (List.mem_of_getElem? (i := 7) rfl)) (fun _ h9 => h9) rfl hin rfl (by decide +kernel) rfl rfl (Nat.le_of_ble_eq_true rfl) dX3_init_18 (fun H_4 locs_4 hP1 hD1 hS1 => ?_)
  replace hP : va_P (dC, dI) vwCl [(ph, .inr (3, [.ref q_1, .ref q_3, .int 0])), (q_1, .inl (cI, 240, .inl (fun _ => 0))), (q_3, .inl (cZ, 40, .inl (fun _ => 0)))] H_4 := hP1
  replace hD : va_D A [(ph, .inr (3, [.ref q_1, .ref q_3, .int 0])), (q_1, .inl (cI, 240, .inl (fun _ => 0))), (q_3, .inl (cZ, 40, .inl (fun _ => 0)))] := hD1
  replace hS := hS1
  clear hP1 hD1 hS1
  refine lv_aload_n hx hb dX3_init_21 rfl (lv_at hl 0 rfl) ?_
  refine lv_iconst (v := 0) hx hb dX3_init_22 (by decide) ?_
  refine va_put (D := (dC, dI)) (ci := 3) (v := .int 0) (ty := .int) (C := RX3) (T := TX3) (N := 3) hx hb hts inc_X3_init_X3 tyX3 tyX3_ok nmX3 hown hK hP hD hS 0 rfl rfl 2 (by decide) (hts (.fieldLink RX3 19 "ArraySegments$Program" "count" "I") (List.mem_of_getElem? (i := 8) rfl)) (fun _ h9 => h9) rfl (by decide +kernel) rfl rfl (Nat.le_of_ble_eq_true rfl) dX3_init_23 (fun H_5 locs_5 hP1 hD1 hS1 => ?_)
  replace hP : va_P (dC, dI) vwCl [(ph, .inr (3, [.ref q_1, .ref q_3, .int 0])), (q_1, .inl (cI, 240, .inl (fun _ => 0))), (q_3, .inl (cZ, 40, .inl (fun _ => 0)))] H_5 := hP1
  replace hD : va_D A [(ph, .inr (3, [.ref q_1, .ref q_3, .int 0])), (q_1, .inl (cI, 240, .inl (fun _ => 0))), (q_3, .inl (cZ, 40, .inl (fun _ => 0)))] := hD1
  replace hS := hS1
  clear hP1 hD1 hS1
  have hP9 := hP.sub (ws' := [(ph, .inr (3, [.ref q_1, .ref q_3, .int 0])), (q_1, .inl (cI, 240, .inl (fun _ => 0))), (q_3, .inl (cZ, 40, .inl (fun _ => 0)))]) [0, 1, 2] rfl
  have hD9 := hD.sub (ws' := [(ph, .inr (3, [.ref q_1, .ref q_3, .int 0])), (q_1, .inl (cI, 240, .inl (fun _ => 0))), (q_3, .inl (cZ, 40, .inl (fun _ => 0)))]) [0, 1, 2] (by decide) rfl
  refine W.widen (k := 2) (n := 280) (Nat.le_of_ble_eq_true rfl) (Nat.le_of_ble_eq_true rfl) ?_
  exact W.vret hx hb hr (fun t ht hW => ⟨⟨(fun k => match k with | 0 => q_1 | 1 => q_3 | _ => 0), rfl, trivial, by rw [ht]; exact hP9, va_K.moved hW.alike hK, hD9⟩, hS.F ht⟩) hS.2.2 dX3_init_26
end
section
def w_X0_setSpan : List Cond := .code yX0_setSpan cX0_setSpan 4 none :: ([.fieldLink RX0 15 "ArraySegments$Facts" "least" "[I", .fieldLink RX0 19 "ArraySegments$Facts" "greatest" "[I"] ++ wsX00)
theorem inc_X0_setSpan_X0 : ∀ w ∈ wsX00, w ∈ w_X0_setSpan := fun _ h => List.mem_cons_of_mem _ (List.mem_append_right _ h)
abbrev pw_X0_setSpan (cI cJ cZ : ClassId) (fh : Nat) (f1 : Nat) (f2 : Nat) (fr : Int32) (fv_sites : Value) (fv_maybeNull : Value) (fv_known : Value) (fv_lanes : Value) (fv_shortest : Value) (fv_longest : Value) (fv_leastAt : Value) (fv_greatestAt : Value) (fl : Nat → Int32) (fg : Nat → Int32) (xa : Int32) (loa : Int32) (hia : Int32) : va_W := [(fh, .inr (0, [.int fr, .ref f1, .ref f2, fv_sites, fv_maybeNull, fv_known, fv_lanes, fv_shortest, fv_longest, fv_leastAt, fv_greatestAt])), (f1, .inl (cI, 6, .inl fl)), (f2, .inl (cI, 6, .inl fg))]
set_option maxHeartbeats 4000000 in
set_option maxRecDepth 100000 in
theorem c_X0_setSpan (l : Launch) (dC : Nat → ClassId) (dI : Nat → Nat → Nat) (cI cJ cZ : ClassId) (fh : Nat) (f1 : Nat) (f2 : Nat) (fr : Int32) (fv_sites : Value) (fv_maybeNull : Value) (fv_known : Value) (fv_lanes : Value) (fv_shortest : Value) (fv_longest : Value) (fv_leastAt : Value) (fv_greatestAt : Value) (fl : Nat → Int32) (fg : Nat → Int32) (xa : Int32) (loa : Int32) (hia : Int32) (sz : Nat) (hxa : V6 xa) : Met l yX0_setSpan w_X0_setSpan ({ frames := 0, cells := 0, slots := 0, locals := 0 }) (va_Pc [.ref fh, .int xa, .int loa, .int hia] (cPre dC dI cI cJ cZ sz (pw_X0_setSpan cI cJ cZ fh f1 f2 fr fv_sites fv_maybeNull fv_known fv_lanes fv_shortest fv_longest fv_leastAt fv_greatestAt fl fg xa loa hia))) (va_Qv (fun (u : Nat → Nat) => True) (fun (u : Nat → Nat) => cPost dC dI cI cJ cZ (va_A (pw_X0_setSpan cI cJ cZ fh f1 f2 fr fv_sites fv_maybeNull fv_known fv_lanes fv_shortest fv_longest fv_leastAt fv_greatestAt fl fg xa loa hia) sz) [(fh, .inr (0, [.int fr, .ref f1, .ref f2, fv_sites, fv_maybeNull, fv_known, fv_lanes, fv_shortest, fv_longest, fv_leastAt, fv_greatestAt])), (f1, .inl (cI, 6, .inl (upd fl ((xa).toNatClampNeg) loa))), (f2, .inl (cI, 6, .inl (upd fg ((xa).toNatClampNeg) hia)))]) (va_A (pw_X0_setSpan cI cJ cZ fh f1 f2 fr fv_sites fv_maybeNull fv_known fv_lanes fv_shortest fv_longest fv_leastAt fv_greatestAt fl fg xa loa hia) sz)) 0 0 (va_A (pw_X0_setSpan cI cJ cZ fh f1 f2 fr fv_sites fv_maybeNull fv_known fv_lanes fv_shortest fv_longest fv_leastAt fv_greatestAt fl fg xa loa hia) sz) := by
  refine Met.ofW (cc := cX0_setSpan) (maxL := 4) (ret := none) (by decide) rfl ?_
  intro p e s m args below meth c s₁ B hml hv
  obtain ⟨rfl, hsz, hP, hK, hD0, hN⟩ := hv
  have hx := B.exec
  have hb := B.bytes
  have hr := B.returns
  have hts := atoms_spec (ws := w_X0_setSpan) B.pre
  have hown : s.vm.findClass RX0 = some m.cls := findClass_of_methodNamed B.named
  have hlocks := B.notSynchronized
  subst hsz
  have hD := hD0.self (sz := s.heap.size)
  generalize hAe : va_A (pw_X0_setSpan cI cJ cZ fh f1 f2 fr fv_sites fv_maybeNull fv_known fv_lanes fv_shortest fv_longest fv_leastAt fv_greatestAt fl fg xa loa hia) s.heap.size = A at hD ⊢
  have hA : ∀ q : Nat, s.heap.size ≤ q → A q := fun q h => by rw [← hAe]; exact Or.inr h
  clear hAe hD0
  have hS : va_S A s.heap s.heap [] := va_S.rf
  replace hP : va_P (dC, dI) vwCl [(fh, .inr (0, [.int fr, .ref f1, .ref f2, fv_sites, fv_maybeNull, fv_known, fv_lanes, fv_shortest, fv_longest, fv_leastAt, fv_greatestAt])), (f1, .inl (cI, 6, .inl fl)), (f2, .inl (cI, 6, .inl fg))] s.heap := hP
  replace hD : va_D A [(fh, .inr (0, [.int fr, .ref f1, .ref f2, fv_sites, fv_maybeNull, fv_known, fv_lanes, fv_shortest, fv_longest, fv_leastAt, fv_greatestAt])), (f1, .inl (cI, 6, .inl fl)), (f2, .inl (cI, 6, .inl fg))] := hD
  have hl := lv_entry ([.ref fh, .int xa, .int loa, .int hia]) (n := 4) (Nat.le_of_ble_eq_true rfl)
  rw [lg_entry_eq]
  generalize (lg_sl ([.ref fh, .int xa, .int loa, .int hia]) ++ List.replicate (4 - (lg_sl ([.ref fh, .int xa, .int loa, .int hia])).length) Slot.unset).toArray = ls at hl ⊢
  replace hl : lv_has ls 4 [(0, .ref fh), (1, .int xa), (2, .int loa), (3, .int hia)] := hl
  refine lv_aload_n hx hb dX0_setSpan_0 rfl (lv_at hl 0 rfl) ?_
  refine va_get (D := (dC, dI)) (ci := 0) (v := .ref f1) (C := RX0) (T := TX0) (N := 11) hx hb hts inc_X0_setSpan_X0 hown hK hP 0 rfl rfl 1 (by decide) (hts (.fieldLink RX0 15 "ArraySegments$Facts" "least" "[I") (List.mem_of_getElem? (i := 1) rfl)) (fun _ h9 => h9) rfl dX0_setSpan_1 ?_
  refine lv_iload_n hx hb dX0_setSpan_4 rfl (lv_at hl 1 rfl) ?_
  refine lv_iload_n hx hb dX0_setSpan_5 rfl (lv_at hl 2 rfl) ?_
  refine va_iast hx hb hK hP hD hS 1 0 rfl rfl (v6_in hxa) dX0_setSpan_6 (fun H_1 locs_1 hP1 hD1 hS1 => ?_)
  replace hP : va_P (dC, dI) vwCl [(fh, .inr (0, [.int fr, .ref f1, .ref f2, fv_sites, fv_maybeNull, fv_known, fv_lanes, fv_shortest, fv_longest, fv_leastAt, fv_greatestAt])), (f1, .inl (cI, 6, .inl (upd fl ((xa).toNatClampNeg) loa))), (f2, .inl (cI, 6, .inl fg))] H_1 := hP1
  replace hD : va_D A [(fh, .inr (0, [.int fr, .ref f1, .ref f2, fv_sites, fv_maybeNull, fv_known, fv_lanes, fv_shortest, fv_longest, fv_leastAt, fv_greatestAt])), (f1, .inl (cI, 6, .inl (upd fl ((xa).toNatClampNeg) loa))), (f2, .inl (cI, 6, .inl fg))] := hD1
  replace hS := hS1
  clear hP1 hD1 hS1
  refine lv_aload_n hx hb dX0_setSpan_7 rfl (lv_at hl 0 rfl) ?_
  refine va_get (D := (dC, dI)) (ci := 0) (v := .ref f2) (C := RX0) (T := TX0) (N := 11) hx hb hts inc_X0_setSpan_X0 hown hK hP 0 rfl rfl 2 (by decide) (hts (.fieldLink RX0 19 "ArraySegments$Facts" "greatest" "[I") (List.mem_of_getElem? (i := 2) rfl)) (fun _ h9 => h9) rfl dX0_setSpan_8 ?_
  refine lv_iload_n hx hb dX0_setSpan_11 rfl (lv_at hl 1 rfl) ?_
  refine lv_iload_n hx hb dX0_setSpan_12 rfl (lv_at hl 3 rfl) ?_
  refine va_iast hx hb hK hP hD hS 2 0 rfl rfl (v6_in hxa) dX0_setSpan_13 (fun H_2 locs_2 hP1 hD1 hS1 => ?_)
  replace hP : va_P (dC, dI) vwCl [(fh, .inr (0, [.int fr, .ref f1, .ref f2, fv_sites, fv_maybeNull, fv_known, fv_lanes, fv_shortest, fv_longest, fv_leastAt, fv_greatestAt])), (f1, .inl (cI, 6, .inl (upd fl ((xa).toNatClampNeg) loa))), (f2, .inl (cI, 6, .inl (upd fg ((xa).toNatClampNeg) hia)))] H_2 := hP1
  replace hD : va_D A [(fh, .inr (0, [.int fr, .ref f1, .ref f2, fv_sites, fv_maybeNull, fv_known, fv_lanes, fv_shortest, fv_longest, fv_leastAt, fv_greatestAt])), (f1, .inl (cI, 6, .inl (upd fl ((xa).toNatClampNeg) loa))), (f2, .inl (cI, 6, .inl (upd fg ((xa).toNatClampNeg) hia)))] := hD1
  replace hS := hS1
  clear hP1 hD1 hS1
  have hP9 := hP.sub (ws' := [(fh, .inr (0, [.int fr, .ref f1, .ref f2, fv_sites, fv_maybeNull, fv_known, fv_lanes, fv_shortest, fv_longest, fv_leastAt, fv_greatestAt])), (f1, .inl (cI, 6, .inl (upd fl ((xa).toNatClampNeg) loa))), (f2, .inl (cI, 6, .inl (upd fg ((xa).toNatClampNeg) hia)))]) [0, 1, 2] rfl
  have hD9 := hD.sub (ws' := [(fh, .inr (0, [.int fr, .ref f1, .ref f2, fv_sites, fv_maybeNull, fv_known, fv_lanes, fv_shortest, fv_longest, fv_leastAt, fv_greatestAt])), (f1, .inl (cI, 6, .inl (upd fl ((xa).toNatClampNeg) loa))), (f2, .inl (cI, 6, .inl (upd fg ((xa).toNatClampNeg) hia)))]) [0, 1, 2] (by decide) rfl
  exact W.vret hx hb hr (fun t ht hW => ⟨⟨(fun _ => 0), rfl, trivial, by rw [ht]; exact hP9, va_K.moved hW.alike hK, hD9⟩, hS.F ht⟩) hS.2.2 dX0_setSpan_14

def w_X0_begin : List Cond := .code yX0_begin cX0_begin 2 none :: ([.fieldLink RX0 9 "ArraySegments$Facts" "isReached" "Z", .fieldLink RX0 30 "ArraySegments$Facts" "known" "[Z", .fieldLink RX0 22 "ArraySegments$Facts" "sites" "[J", .fieldLink RX0 26 "ArraySegments$Facts" "maybeNull" "[Z", .methodLink RX0 48 yX0_setSpan, .instanceMethod yX0_setSpan, .selects RX0 yX0_setSpan yX0_setSpan, .initialized RX0, .code yX0_setSpan cX0_setSpan 4 none, .fieldLink RX0 15 "ArraySegments$Facts" "least" "[I", .fieldLink RX0 19 "ArraySegments$Facts" "greatest" "[I"] ++ wsX00)
theorem inc_X0_begin_X0 : ∀ w ∈ wsX00, w ∈ w_X0_begin := fun _ h => List.mem_cons_of_mem _ (List.mem_append_right _ h)
set_option maxRecDepth 20000 in
theorem g_X0_begin_X0_setSpan_48 : GoodIn w_X0_begin (wsV RX0 48 RX0 yX0_setSpan w_X0_setSpan) := goodIn_r _ [5, 6, 7, 8, 9, 10, 11, 12, 13, 14, 15, 16, 17, 18, 19, 20, 21, 22] (by decide +kernel) (by decide +kernel)
abbrev pw_X0_begin (cI cJ cZ : ClassId) (fh : Nat) (f1 : Nat) (f2 : Nat) (f3 : Nat) (f4 : Nat) (f5 : Nat) (fr : Int32) (fw_lanes : Value) (fw_shortest : Value) (fw_longest : Value) (fw_leastAt : Value) (fw_greatestAt : Value) (fl : Nat → Int32) (fg : Nat → Int32) (fs : Nat → Int64) (fm : Nat → Int32) (fk : Nat → Int32) : va_W := [(fh, .inr (0, [.int fr, .ref f1, .ref f2, .ref f3, .ref f4, .ref f5, fw_lanes, fw_shortest, fw_longest, fw_leastAt, fw_greatestAt])), (f1, .inl (cI, 6, .inl fl)), (f2, .inl (cI, 6, .inl fg)), (f3, .inl (cJ, 6, .inr (.inl fs))), (f4, .inl (cZ, 6, .inl fm)), (f5, .inl (cZ, 40, .inl fk))]
set_option maxHeartbeats 4000000 in
set_option maxRecDepth 100000 in
theorem c_X0_begin (l : Launch) (dC : Nat → ClassId) (dI : Nat → Nat → Nat) (cI cJ cZ : ClassId) (fh : Nat) (f1 : Nat) (f2 : Nat) (f3 : Nat) (f4 : Nat) (f5 : Nat) (fr : Int32) (fw_lanes : Value) (fw_shortest : Value) (fw_longest : Value) (fw_leastAt : Value) (fw_greatestAt : Value) (fl : Nat → Int32) (fg : Nat → Int32) (fs : Nat → Int64) (fm : Nat → Int32) (fk : Nat → Int32) (sz : Nat) : Met l yX0_begin w_X0_begin ({ frames := 1, cells := 0, slots := 0, locals := 23 }) (va_Pc [.ref fh] (cPre dC dI cI cJ cZ sz (pw_X0_begin cI cJ cZ fh f1 f2 f3 f4 f5 fr fw_lanes fw_shortest fw_longest fw_leastAt fw_greatestAt fl fg fs fm fk))) (va_Qv (fun (u : Nat → Nat) => True) (fun (u : Nat → Nat) => cPost dC dI cI cJ cZ (va_A (pw_X0_begin cI cJ cZ fh f1 f2 f3 f4 f5 fr fw_lanes fw_shortest fw_longest fw_leastAt fw_greatestAt fl fg fs fm fk) sz) [(fh, .inr (0, [.int 1, .ref f1, .ref f2, .ref f3, .ref f4, .ref f5, fw_lanes, fw_shortest, fw_longest, fw_leastAt, fw_greatestAt])), (f1, .inl (cI, 6, .inl (ov fl 6 0))), (f2, .inl (cI, 6, .inl (ov fg 6 0))), (f3, .inl (cJ, 6, .inr (.inl (ovL fs 6 0)))), (f4, .inl (cZ, 6, .inl (ov fm 6 1))), (f5, .inl (cZ, 40, .inl (ov fk 40 0)))]) (va_A (pw_X0_begin cI cJ cZ fh f1 f2 f3 f4 f5 fr fw_lanes fw_shortest fw_longest fw_leastAt fw_greatestAt fl fg fs fm fk) sz)) 0 0 (va_A (pw_X0_begin cI cJ cZ fh f1 f2 f3 f4 f5 fr fw_lanes fw_shortest fw_longest fw_leastAt fw_greatestAt fl fg fs fm fk) sz) := by
  refine Met.ofW (cc := cX0_begin) (maxL := 2) (ret := none) (by decide) rfl ?_
  intro p e s m args below meth c s₁ B hml hv
  obtain ⟨rfl, hsz, hP, hK, hD0, hN⟩ := hv
  have hx := B.exec
  have hb := B.bytes
  have hr := B.returns
  have hts := atoms_spec (ws := w_X0_begin) B.pre
  have hown : s.vm.findClass RX0 = some m.cls := findClass_of_methodNamed B.named
  have hlocks := B.notSynchronized
  subst hsz
  have hD := hD0.self (sz := s.heap.size)
  generalize hAe : va_A (pw_X0_begin cI cJ cZ fh f1 f2 f3 f4 f5 fr fw_lanes fw_shortest fw_longest fw_leastAt fw_greatestAt fl fg fs fm fk) s.heap.size = A at hD ⊢
  have hA : ∀ q : Nat, s.heap.size ≤ q → A q := fun q h => by rw [← hAe]; exact Or.inr h
  clear hAe hD0
  have hS : va_S A s.heap s.heap [] := va_S.rf
  replace hP : va_P (dC, dI) vwCl [(fh, .inr (0, [.int fr, .ref f1, .ref f2, .ref f3, .ref f4, .ref f5, fw_lanes, fw_shortest, fw_longest, fw_leastAt, fw_greatestAt])), (f1, .inl (cI, 6, .inl fl)), (f2, .inl (cI, 6, .inl fg)), (f3, .inl (cJ, 6, .inr (.inl fs))), (f4, .inl (cZ, 6, .inl fm)), (f5, .inl (cZ, 40, .inl fk))] s.heap := hP
  replace hD : va_D A [(fh, .inr (0, [.int fr, .ref f1, .ref f2, .ref f3, .ref f4, .ref f5, fw_lanes, fw_shortest, fw_longest, fw_leastAt, fw_greatestAt])), (f1, .inl (cI, 6, .inl fl)), (f2, .inl (cI, 6, .inl fg)), (f3, .inl (cJ, 6, .inr (.inl fs))), (f4, .inl (cZ, 6, .inl fm)), (f5, .inl (cZ, 40, .inl fk))] := hD
  have hl := lv_entry ([.ref fh]) (n := 2) (Nat.le_of_ble_eq_true rfl)
  rw [lg_entry_eq]
  generalize (lg_sl ([.ref fh]) ++ List.replicate (2 - (lg_sl ([.ref fh])).length) Slot.unset).toArray = ls at hl ⊢
  replace hl : lv_has ls 2 [(0, .ref fh)] := hl
  refine lv_aload_n hx hb dX0_begin_0 rfl (lv_at hl 0 rfl) ?_
  refine lv_iconst (v := 1) hx hb dX0_begin_1 (by decide) ?_
  refine va_put (D := (dC, dI)) (ci := 0) (v := .int 1) (ty := .boolean) (C := RX0) (T := TX0) (N := 11) hx hb hts inc_X0_begin_X0 tyX0 tyX0_ok nmX0 hown hK hP hD hS 0 rfl rfl 0 (by decide) (hts (.fieldLink RX0 9 "ArraySegments$Facts" "isReached" "Z") (List.mem_of_getElem? (i := 1) rfl)) (fun _ h9 => h9) rfl (by decide +kernel) rfl rfl (Nat.le_of_ble_eq_true rfl) dX0_begin_2 (fun H_1 locs_1 hP1 hD1 hS1 => ?_)
  replace hP : va_P (dC, dI) vwCl [(fh, .inr (0, [.int 1, .ref f1, .ref f2, .ref f3, .ref f4, .ref f5, fw_lanes, fw_shortest, fw_longest, fw_leastAt, fw_greatestAt])), (f1, .inl (cI, 6, .inl fl)), (f2, .inl (cI, 6, .inl fg)), (f3, .inl (cJ, 6, .inr (.inl fs))), (f4, .inl (cZ, 6, .inl fm)), (f5, .inl (cZ, 40, .inl fk))] H_1 := hP1
  replace hD : va_D A [(fh, .inr (0, [.int 1, .ref f1, .ref f2, .ref f3, .ref f4, .ref f5, fw_lanes, fw_shortest, fw_longest, fw_leastAt, fw_greatestAt])), (f1, .inl (cI, 6, .inl fl)), (f2, .inl (cI, 6, .inl fg)), (f3, .inl (cJ, 6, .inr (.inl fs))), (f4, .inl (cZ, 6, .inl fm)), (f5, .inl (cZ, 40, .inl fk))] := hD1
  replace hS := hS1
  clear hP1 hD1 hS1
  refine lv_iconst (v := 0) hx hb dX0_begin_5 (by decide) ?_
  refine lv_istore_n (lv' := [(1, .int 0), (0, .ref fh)]) hx hb dX0_begin_6 rfl hl (by decide) rfl (fun ls1 hl1 => ?_)
  replace hl := hl1; clear hl1
  refine my_loop 6 (fun i => [(fh, .inr (0, [.int 1, .ref f1, .ref f2, .ref f3, .ref f4, .ref f5, fw_lanes, fw_shortest, fw_longest, fw_leastAt, fw_greatestAt])), (f1, .inl (cI, 6, .inl (ov fl i 0))), (f2, .inl (cI, 6, .inl (ov fg i 0))), (f3, .inl (cJ, 6, .inr (.inl fs))), (f4, .inl (cZ, 6, .inl fm)), (f5, .inl (cZ, 40, .inl fk))]) (fun i => [(1, .int (nI i)), (0, .ref fh)]) (H0 := s.heap) (A := A) (D := (dC, dI)) (cl := vwCl) (by first | (simp only [ov_0, ovL_0]; exact hP) | exact hP) (by first | (simp only [ov_0, ovL_0]; exact hD) | exact hD) hS (by exact hl) (fun H_7 locs_7 ls1 hP1 hD1 hS1 hl1 => ?_) (fun i7 hlt_i7 ih_7 H_7 locs_7 ls1 hP1 hD1 hS1 hl1 => ?_)
  · -- behind
    replace hP : va_P (dC, dI) vwCl [(fh, .inr (0, [.int 1, .ref f1, .ref f2, .ref f3, .ref f4, .ref f5, fw_lanes, fw_shortest, fw_longest, fw_leastAt, fw_greatestAt])), (f1, .inl (cI, 6, .inl (ov fl 6 0))), (f2, .inl (cI, 6, .inl (ov fg 6 0))), (f3, .inl (cJ, 6, .inr (.inl fs))), (f4, .inl (cZ, 6, .inl fm)), (f5, .inl (cZ, 40, .inl fk))] H_7 := hP1
    replace hD : va_D A [(fh, .inr (0, [.int 1, .ref f1, .ref f2, .ref f3, .ref f4, .ref f5, fw_lanes, fw_shortest, fw_longest, fw_leastAt, fw_greatestAt])), (f1, .inl (cI, 6, .inl (ov fl 6 0))), (f2, .inl (cI, 6, .inl (ov fg 6 0))), (f3, .inl (cJ, 6, .inr (.inl fs))), (f4, .inl (cZ, 6, .inl fm)), (f5, .inl (cZ, 40, .inl fk))] := hD1
    replace hS := hS1
    clear hP1 hD1 hS1
    replace hl : lv_has ls1 2 [(1, .int (nI 6)), (0, .ref fh)] := hl1
    clear hl1
    refine lv_iload_n hx hb dX0_begin_7 rfl (lv_at hl 0 rfl) ?_
    refine lv_bipush (v := 6) hx hb dX0_begin_8 (by decide) ?_
    refine lv_icmp_ge (tgt := 26) hx hb dX0_begin_10 (by decide) (fun c_2 => ?_) (fun c_2 => ?_)
    · -- on
      refine lv_iconst (v := 0) hx hb dX0_begin_26 (by decide) ?_
      refine lv_istore_n (lv' := [(1, .int 0), (0, .ref fh)]) hx hb dX0_begin_27 rfl hl (by decide) rfl (fun ls1 hl1 => ?_)
      replace hl := hl1; clear hl1
      refine my_loop 6 (fun i => [(fh, .inr (0, [.int 1, .ref f1, .ref f2, .ref f3, .ref f4, .ref f5, fw_lanes, fw_shortest, fw_longest, fw_leastAt, fw_greatestAt])), (f1, .inl (cI, 6, .inl (ov fl 6 0))), (f2, .inl (cI, 6, .inl (ov fg 6 0))), (f3, .inl (cJ, 6, .inr (.inl (ovL fs i 0)))), (f4, .inl (cZ, 6, .inl (ov fm i 1))), (f5, .inl (cZ, 40, .inl fk))]) (fun i => [(1, .int (nI i)), (0, .ref fh)]) (H0 := s.heap) (A := A) (D := (dC, dI)) (cl := vwCl) (by first | (simp only [ov_0, ovL_0]; exact hP) | exact hP) (by first | (simp only [ov_0, ovL_0]; exact hD) | exact hD) hS (by exact hl) (fun H_28 locs_28 ls1 hP1 hD1 hS1 hl1 => ?_) (fun i28 hlt_i28 ih_28 H_28 locs_28 ls1 hP1 hD1 hS1 hl1 => ?_)
      · -- behind
        replace hP : va_P (dC, dI) vwCl [(fh, .inr (0, [.int 1, .ref f1, .ref f2, .ref f3, .ref f4, .ref f5, fw_lanes, fw_shortest, fw_longest, fw_leastAt, fw_greatestAt])), (f1, .inl (cI, 6, .inl (ov fl 6 0))), (f2, .inl (cI, 6, .inl (ov fg 6 0))), (f3, .inl (cJ, 6, .inr (.inl (ovL fs 6 0)))), (f4, .inl (cZ, 6, .inl (ov fm 6 1))), (f5, .inl (cZ, 40, .inl fk))] H_28 := hP1
        replace hD : va_D A [(fh, .inr (0, [.int 1, .ref f1, .ref f2, .ref f3, .ref f4, .ref f5, fw_lanes, fw_shortest, fw_longest, fw_leastAt, fw_greatestAt])), (f1, .inl (cI, 6, .inl (ov fl 6 0))), (f2, .inl (cI, 6, .inl (ov fg 6 0))), (f3, .inl (cJ, 6, .inr (.inl (ovL fs 6 0)))), (f4, .inl (cZ, 6, .inl (ov fm 6 1))), (f5, .inl (cZ, 40, .inl fk))] := hD1
        replace hS := hS1
        clear hP1 hD1 hS1
        replace hl : lv_has ls1 2 [(1, .int (nI 6)), (0, .ref fh)] := hl1
        clear hl1
        refine lv_iload_n hx hb dX0_begin_28 rfl (lv_at hl 0 rfl) ?_
        refine lv_bipush (v := 6) hx hb dX0_begin_29 (by decide) ?_
        refine lv_icmp_ge (tgt := 54) hx hb dX0_begin_31 (by decide) (fun c_3 => ?_) (fun c_3 => ?_)
        · -- on
          refine lv_iconst (v := 0) hx hb dX0_begin_54 (by decide) ?_
          refine lv_istore_n (lv' := [(1, .int 0), (0, .ref fh)]) hx hb dX0_begin_55 rfl hl (by decide) rfl (fun ls1 hl1 => ?_)
          replace hl := hl1; clear hl1
          refine my_loop 40 (fun i => [(fh, .inr (0, [.int 1, .ref f1, .ref f2, .ref f3, .ref f4, .ref f5, fw_lanes, fw_shortest, fw_longest, fw_leastAt, fw_greatestAt])), (f1, .inl (cI, 6, .inl (ov fl 6 0))), (f2, .inl (cI, 6, .inl (ov fg 6 0))), (f3, .inl (cJ, 6, .inr (.inl (ovL fs 6 0)))), (f4, .inl (cZ, 6, .inl (ov fm 6 1))), (f5, .inl (cZ, 40, .inl (ov fk i 0)))]) (fun i => [(1, .int (nI i)), (0, .ref fh)]) (H0 := s.heap) (A := A) (D := (dC, dI)) (cl := vwCl) (by first | (simp only [ov_0, ovL_0]; exact hP) | exact hP) (by first | (simp only [ov_0, ovL_0]; exact hD) | exact hD) hS (by exact hl) (fun H_56 locs_56 ls1 hP1 hD1 hS1 hl1 => ?_) (fun i56 hlt_i56 ih_56 H_56 locs_56 ls1 hP1 hD1 hS1 hl1 => ?_)
          · -- behind
            replace hP : va_P (dC, dI) vwCl [(fh, .inr (0, [.int 1, .ref f1, .ref f2, .ref f3, .ref f4, .ref f5, fw_lanes, fw_shortest, fw_longest, fw_leastAt, fw_greatestAt])), (f1, .inl (cI, 6, .inl (ov fl 6 0))), (f2, .inl (cI, 6, .inl (ov fg 6 0))), (f3, .inl (cJ, 6, .inr (.inl (ovL fs 6 0)))), (f4, .inl (cZ, 6, .inl (ov fm 6 1))), (f5, .inl (cZ, 40, .inl (ov fk 40 0)))] H_56 := hP1
            replace hD : va_D A [(fh, .inr (0, [.int 1, .ref f1, .ref f2, .ref f3, .ref f4, .ref f5, fw_lanes, fw_shortest, fw_longest, fw_leastAt, fw_greatestAt])), (f1, .inl (cI, 6, .inl (ov fl 6 0))), (f2, .inl (cI, 6, .inl (ov fg 6 0))), (f3, .inl (cJ, 6, .inr (.inl (ovL fs 6 0)))), (f4, .inl (cZ, 6, .inl (ov fm 6 1))), (f5, .inl (cZ, 40, .inl (ov fk 40 0)))] := hD1
            replace hS := hS1
            clear hP1 hD1 hS1
            replace hl : lv_has ls1 2 [(1, .int (nI 40)), (0, .ref fh)] := hl1
            clear hl1
            refine lv_iload_n hx hb dX0_begin_56 rfl (lv_at hl 0 rfl) ?_
            refine lv_bipush (v := 40) hx hb dX0_begin_57 (by decide) ?_
            refine lv_icmp_ge (tgt := 75) hx hb dX0_begin_59 (by decide) (fun c_4 => ?_) (fun c_4 => ?_)
            · -- on
              have hP9 := hP.sub (ws' := [(fh, .inr (0, [.int 1, .ref f1, .ref f2, .ref f3, .ref f4, .ref f5, fw_lanes, fw_shortest, fw_longest, fw_leastAt, fw_greatestAt])), (f1, .inl (cI, 6, .inl (ov fl 6 0))), (f2, .inl (cI, 6, .inl (ov fg 6 0))), (f3, .inl (cJ, 6, .inr (.inl (ovL fs 6 0)))), (f4, .inl (cZ, 6, .inl (ov fm 6 1))), (f5, .inl (cZ, 40, .inl (ov fk 40 0)))]) [0, 1, 2, 3, 4, 5] rfl
              have hD9 := hD.sub (ws' := [(fh, .inr (0, [.int 1, .ref f1, .ref f2, .ref f3, .ref f4, .ref f5, fw_lanes, fw_shortest, fw_longest, fw_leastAt, fw_greatestAt])), (f1, .inl (cI, 6, .inl (ov fl 6 0))), (f2, .inl (cI, 6, .inl (ov fg 6 0))), (f3, .inl (cJ, 6, .inr (.inl (ovL fs 6 0)))), (f4, .inl (cZ, 6, .inl (ov fm 6 1))), (f5, .inl (cZ, 40, .inl (ov fk 40 0)))]) [0, 1, 2, 3, 4, 5] (by decide) rfl
              exact W.vret hx hb hr (fun t ht hW => ⟨⟨(fun _ => 0), rfl, trivial, by rw [ht]; exact hP9, va_K.moved hW.alike hK, hD9⟩, hS.F ht⟩) hS.2.2 dX0_begin_75
            · exact absurd (by decide) c_4
          · -- once
            replace hP : va_P (dC, dI) vwCl [(fh, .inr (0, [.int 1, .ref f1, .ref f2, .ref f3, .ref f4, .ref f5, fw_lanes, fw_shortest, fw_longest, fw_leastAt, fw_greatestAt])), (f1, .inl (cI, 6, .inl (ov fl 6 0))), (f2, .inl (cI, 6, .inl (ov fg 6 0))), (f3, .inl (cJ, 6, .inr (.inl (ovL fs 6 0)))), (f4, .inl (cZ, 6, .inl (ov fm 6 1))), (f5, .inl (cZ, 40, .inl (ov fk i56 0)))] H_56 := hP1
            replace hD : va_D A [(fh, .inr (0, [.int 1, .ref f1, .ref f2, .ref f3, .ref f4, .ref f5, fw_lanes, fw_shortest, fw_longest, fw_leastAt, fw_greatestAt])), (f1, .inl (cI, 6, .inl (ov fl 6 0))), (f2, .inl (cI, 6, .inl (ov fg 6 0))), (f3, .inl (cJ, 6, .inr (.inl (ovL fs 6 0)))), (f4, .inl (cZ, 6, .inl (ov fm 6 1))), (f5, .inl (cZ, 40, .inl (ov fk i56 0)))] := hD1
            replace hS := hS1
            clear hP1 hD1 hS1
            replace hl : lv_has ls1 2 [(1, .int (nI i56)), (0, .ref fh)] := hl1
            clear hl1
            refine lv_iload_n hx hb dX0_begin_56 rfl (lv_at hl 0 rfl) ?_
            refine lv_bipush (v := 40) hx hb dX0_begin_57 (by decide) ?_
            refine lv_icmp_ge (tgt := 75) hx hb dX0_begin_59 (by decide) (fun c_5 => ?_) (fun c_5 => ?_)
            · exact absurd c_5 (nI_ge hlt_i56 (by decide))
            · -- on
              refine lv_aload_n hx hb dX0_begin_62 rfl (lv_at hl 1 rfl) ?_
              refine va_get (D := (dC, dI)) (ci := 0) (v := .ref f5) (C := RX0) (T := TX0) (N := 11) hx hb hts inc_X0_begin_X0 hown hK hP 0 rfl rfl 5 (by decide) (hts (.fieldLink RX0 30 "ArraySegments$Facts" "known" "[Z") (List.mem_of_getElem? (i := 2) rfl)) (fun _ h9 => h9) rfl dX0_begin_63 ?_
              refine lv_iload_n hx hb dX0_begin_66 rfl (lv_at hl 0 rfl) ?_
              refine lv_iconst (v := 0) hx hb dX0_begin_67 (by decide) ?_
              refine va_zast hx hb hK hP hD hS 5 2 rfl rfl (vp_in_nI (by omega) (by decide)) dX0_begin_68 (fun H_6 locs_6 hP1 hD1 hS1 => ?_)
              rw [show upd (ov fk i56 0) (nI i56 : Int32).toNatClampNeg (vp_nar .boolean 0) = (ov fk (i56 + 1) 0) from ov_stZ fk 0 (by omega) (by decide)] at hP1 hD1
              replace hP : va_P (dC, dI) vwCl [(fh, .inr (0, [.int 1, .ref f1, .ref f2, .ref f3, .ref f4, .ref f5, fw_lanes, fw_shortest, fw_longest, fw_leastAt, fw_greatestAt])), (f1, .inl (cI, 6, .inl (ov fl 6 0))), (f2, .inl (cI, 6, .inl (ov fg 6 0))), (f3, .inl (cJ, 6, .inr (.inl (ovL fs 6 0)))), (f4, .inl (cZ, 6, .inl (ov fm 6 1))), (f5, .inl (cZ, 40, .inl (ov fk (i56 + 1) 0)))] H_6 := hP1
              replace hD : va_D A [(fh, .inr (0, [.int 1, .ref f1, .ref f2, .ref f3, .ref f4, .ref f5, fw_lanes, fw_shortest, fw_longest, fw_leastAt, fw_greatestAt])), (f1, .inl (cI, 6, .inl (ov fl 6 0))), (f2, .inl (cI, 6, .inl (ov fg 6 0))), (f3, .inl (cJ, 6, .inr (.inl (ovL fs 6 0)))), (f4, .inl (cZ, 6, .inl (ov fm 6 1))), (f5, .inl (cZ, 40, .inl (ov fk (i56 + 1) 0)))] := hD1
              replace hS := hS1
              clear hP1 hD1 hS1
              refine lv_iinc (v := nI (i56 + 1)) (lv' := [(1, .int (nI (i56 + 1))), (0, .ref fh)]) hx hb dX0_begin_69 hl (k := 0) rfl (by rw [show Int32.ofInt 1 = (1 : Int32) from by decide]; exact nI_1 _) (by decide) rfl (fun ls1 hl1 => ?_)
              replace hl := hl1; clear hl1
              refine lv_goto (tgt := 56) hx hb dX0_begin_72 (by decide) ?_
              exact ih_56 _ _ _ (hP.sub [0, 1, 2, 3, 4, 5] rfl) (hD.sub [0, 1, 2, 3, 4, 5] (by decide) rfl) hS (lv_sub hl [0, 1] rfl)
        · exact absurd (by decide) c_3
      · -- once
        replace hP : va_P (dC, dI) vwCl [(fh, .inr (0, [.int 1, .ref f1, .ref f2, .ref f3, .ref f4, .ref f5, fw_lanes, fw_shortest, fw_longest, fw_leastAt, fw_greatestAt])), (f1, .inl (cI, 6, .inl (ov fl 6 0))), (f2, .inl (cI, 6, .inl (ov fg 6 0))), (f3, .inl (cJ, 6, .inr (.inl (ovL fs i28 0)))), (f4, .inl (cZ, 6, .inl (ov fm i28 1))), (f5, .inl (cZ, 40, .inl fk))] H_28 := hP1
        replace hD : va_D A [(fh, .inr (0, [.int 1, .ref f1, .ref f2, .ref f3, .ref f4, .ref f5, fw_lanes, fw_shortest, fw_longest, fw_leastAt, fw_greatestAt])), (f1, .inl (cI, 6, .inl (ov fl 6 0))), (f2, .inl (cI, 6, .inl (ov fg 6 0))), (f3, .inl (cJ, 6, .inr (.inl (ovL fs i28 0)))), (f4, .inl (cZ, 6, .inl (ov fm i28 1))), (f5, .inl (cZ, 40, .inl fk))] := hD1
        replace hS := hS1
        clear hP1 hD1 hS1
        replace hl : lv_has ls1 2 [(1, .int (nI i28)), (0, .ref fh)] := hl1
        clear hl1
        refine lv_iload_n hx hb dX0_begin_28 rfl (lv_at hl 0 rfl) ?_
        refine lv_bipush (v := 6) hx hb dX0_begin_29 (by decide) ?_
        refine lv_icmp_ge (tgt := 54) hx hb dX0_begin_31 (by decide) (fun c_7 => ?_) (fun c_7 => ?_)
        · exact absurd c_7 (nI_ge hlt_i28 (by decide))
        · -- on
          refine lv_aload_n hx hb dX0_begin_34 rfl (lv_at hl 1 rfl) ?_
          refine va_get (D := (dC, dI)) (ci := 0) (v := .ref f3) (C := RX0) (T := TX0) (N := 11) hx hb hts inc_X0_begin_X0 hown hK hP 0 rfl rfl 3 (by decide) (hts (.fieldLink RX0 22 "ArraySegments$Facts" "sites" "[J") (List.mem_of_getElem? (i := 3) rfl)) (fun _ h9 => h9) rfl dX0_begin_35 ?_
          refine lv_iload_n hx hb dX0_begin_38 rfl (lv_at hl 0 rfl) ?_
          refine lv_lconst (v := 0) hx hb dX0_begin_39 (by decide) ?_
          refine va_last hx hb hK hP hD hS 3 1 rfl rfl (vp_in_nI (by omega) (by decide)) dX0_begin_40 (fun H_8 locs_8 hP1 hD1 hS1 => ?_)
          rw [show vp_updL (ovL fs i28 0) (nI i28 : Int32).toNatClampNeg 0 = (ovL fs (i28 + 1) 0) from ovL_st fs 0 (by omega)] at hP1 hD1
          replace hP : va_P (dC, dI) vwCl [(fh, .inr (0, [.int 1, .ref f1, .ref f2, .ref f3, .ref f4, .ref f5, fw_lanes, fw_shortest, fw_longest, fw_leastAt, fw_greatestAt])), (f1, .inl (cI, 6, .inl (ov fl 6 0))), (f2, .inl (cI, 6, .inl (ov fg 6 0))), (f3, .inl (cJ, 6, .inr (.inl (ovL fs (i28 + 1) 0)))), (f4, .inl (cZ, 6, .inl (ov fm i28 1))), (f5, .inl (cZ, 40, .inl fk))] H_8 := hP1
          replace hD : va_D A [(fh, .inr (0, [.int 1, .ref f1, .ref f2, .ref f3, .ref f4, .ref f5, fw_lanes, fw_shortest, fw_longest, fw_leastAt, fw_greatestAt])), (f1, .inl (cI, 6, .inl (ov fl 6 0))), (f2, .inl (cI, 6, .inl (ov fg 6 0))), (f3, .inl (cJ, 6, .inr (.inl (ovL fs (i28 + 1) 0)))), (f4, .inl (cZ, 6, .inl (ov fm i28 1))), (f5, .inl (cZ, 40, .inl fk))] := hD1
          replace hS := hS1
          clear hP1 hD1 hS1
          refine lv_aload_n hx hb dX0_begin_41 rfl (lv_at hl 1 rfl) ?_
          refine va_get (D := (dC, dI)) (ci := 0) (v := .ref f4) (C := RX0) (T := TX0) (N := 11) hx hb hts inc_X0_begin_X0 hown hK hP 0 rfl rfl 4 (by decide) (hts (.fieldLink RX0 26 "ArraySegments$Facts" "maybeNull" "[Z") (List.mem_of_getElem? (i := 4) rfl)) (fun _ h9 => h9) rfl dX0_begin_42 ?_
          refine lv_iload_n hx hb dX0_begin_45 rfl (lv_at hl 0 rfl) ?_
          refine lv_iconst (v := 1) hx hb dX0_begin_46 (by decide) ?_
          refine va_zast hx hb hK hP hD hS 4 2 rfl rfl (vp_in_nI (by omega) (by decide)) dX0_begin_47 (fun H_9 locs_9 hP1 hD1 hS1 => ?_)
          rw [show upd (ov fm i28 1) (nI i28 : Int32).toNatClampNeg (vp_nar .boolean 1) = (ov fm (i28 + 1) 1) from ov_stZ fm 1 (by omega) (by decide)] at hP1 hD1
          replace hP : va_P (dC, dI) vwCl [(fh, .inr (0, [.int 1, .ref f1, .ref f2, .ref f3, .ref f4, .ref f5, fw_lanes, fw_shortest, fw_longest, fw_leastAt, fw_greatestAt])), (f1, .inl (cI, 6, .inl (ov fl 6 0))), (f2, .inl (cI, 6, .inl (ov fg 6 0))), (f3, .inl (cJ, 6, .inr (.inl (ovL fs (i28 + 1) 0)))), (f4, .inl (cZ, 6, .inl (ov fm (i28 + 1) 1))), (f5, .inl (cZ, 40, .inl fk))] H_9 := hP1
          replace hD : va_D A [(fh, .inr (0, [.int 1, .ref f1, .ref f2, .ref f3, .ref f4, .ref f5, fw_lanes, fw_shortest, fw_longest, fw_leastAt, fw_greatestAt])), (f1, .inl (cI, 6, .inl (ov fl 6 0))), (f2, .inl (cI, 6, .inl (ov fg 6 0))), (f3, .inl (cJ, 6, .inr (.inl (ovL fs (i28 + 1) 0)))), (f4, .inl (cZ, 6, .inl (ov fm (i28 + 1) 1))), (f5, .inl (cZ, 40, .inl fk))] := hD1
          replace hS := hS1
          clear hP1 hD1 hS1
          refine lv_iinc (v := nI (i28 + 1)) (lv' := [(1, .int (nI (i28 + 1))), (0, .ref fh)]) hx hb dX0_begin_48 hl (k := 0) rfl (by rw [show Int32.ofInt 1 = (1 : Int32) from by decide]; exact nI_1 _) (by decide) rfl (fun ls1 hl1 => ?_)
          replace hl := hl1; clear hl1
          refine lv_goto (tgt := 28) hx hb dX0_begin_51 (by decide) ?_
          exact ih_28 _ _ _ (hP.sub [0, 1, 2, 3, 4, 5] rfl) (hD.sub [0, 1, 2, 3, 4, 5] (by decide) rfl) hS (lv_sub hl [0, 1] rfl)
    · exact absurd (by decide) c_2
  · -- once
    replace hP : va_P (dC, dI) vwCl [(fh, .inr (0, [.int 1, .ref f1, .ref f2, .ref f3, .ref f4, .ref f5, fw_lanes, fw_shortest, fw_longest, fw_leastAt, fw_greatestAt])), (f1, .inl (cI, 6, .inl (ov fl i7 0))), (f2, .inl (cI, 6, .inl (ov fg i7 0))), (f3, .inl (cJ, 6, .inr (.inl fs))), (f4, .inl (cZ, 6, .inl fm)), (f5, .inl (cZ, 40, .inl fk))] H_7 := hP1
    replace hD : va_D A [(fh, .inr (0, [.int 1, .ref f1, .ref f2, .ref f3, .ref f4, .ref f5, fw_lanes, fw_shortest, fw_longest, fw_leastAt, fw_greatestAt])), (f1, .inl (cI, 6, .inl (ov fl i7 0))), (f2, .inl (cI, 6, .inl (ov fg i7 0))), (f3, .inl (cJ, 6, .inr (.inl fs))), (f4, .inl (cZ, 6, .inl fm)), (f5, .inl (cZ, 40, .inl fk))] := hD1
    replace hS := hS1
    clear hP1 hD1 hS1
    replace hl : lv_has ls1 2 [(1, .int (nI i7)), (0, .ref fh)] := hl1
    clear hl1
    refine lv_iload_n hx hb dX0_begin_7 rfl (lv_at hl 0 rfl) ?_
    refine lv_bipush (v := 6) hx hb dX0_begin_8 (by decide) ?_
    refine lv_icmp_ge (tgt := 26) hx hb dX0_begin_10 (by decide) (fun c_10 => ?_) (fun c_10 => ?_)
    · exact absurd c_10 (nI_ge hlt_i7 (by decide))
    · -- on
      refine lv_aload_n hx hb dX0_begin_13 rfl (lv_at hl 1 rfl) ?_
      refine lv_iload_n hx hb dX0_begin_14 rfl (lv_at hl 0 rfl) ?_
      refine lv_iconst (v := 0) hx hb dX0_begin_15 (by decide) ?_
      refine lv_iconst (v := 0) hx hb dX0_begin_16 (by decide) ?_
      have hPc := hP.sub (ws' := [(fh, .inr (0, [.int 1, .ref f1, .ref f2, .ref f3, .ref f4, .ref f5, fw_lanes, fw_shortest, fw_longest, fw_leastAt, fw_greatestAt])), (f1, .inl (cI, 6, .inl (ov fl i7 0))), (f2, .inl (cI, 6, .inl (ov fg i7 0)))]) [0, 1, 2] rfl
      have hDc := hD.sub (ws' := [(fh, .inr (0, [.int 1, .ref f1, .ref f2, .ref f3, .ref f4, .ref f5, fw_lanes, fw_shortest, fw_longest, fw_leastAt, fw_greatestAt])), (f1, .inl (cI, 6, .inl (ov fl i7 0))), (f2, .inl (cI, 6, .inl (ov fg i7 0)))]) [0, 1, 2] (by decide) rfl
      have hFc := va_free (wc := [(fh, .inr (0, [.int 1, .ref f1, .ref f2, .ref f3, .ref f4, .ref f5, fw_lanes, fw_shortest, fw_longest, fw_leastAt, fw_greatestAt])), (f1, .inl (cI, 6, .inl (ov fl i7 0))), (f2, .inl (cI, 6, .inl (ov fg i7 0)))]) hD hS hA [0, 1, 2] rfl
      refine va_callv (va_runV (As := [.int (nI i7), .int 0, .int 0]) (rest := []) ⟨hx, hb, hml, hown, hts⟩ (c_X0_setSpan l dC dI cI cJ cZ fh f1 f2 1 (.ref f3) (.ref f4) (.ref f5) fw_lanes fw_shortest fw_longest fw_leastAt fw_greatestAt (ov fl i7 0) (ov fg i7 0) (nI i7) 0 0 H_7.size (v6_nI (by omega))) (cwV 3 hts g_X0_begin_X0_setSpan_48 rfl rfl rfl (by decide +kernel) ⟨Nat.le_of_ble_eq_true rfl, Nat.le_of_ble_eq_true rfl⟩) ⟨cPre_blind, va_recv hK hPc (ci := 0) (q0 := 0) rfl rfl, cPre_of hK hN hPc hDc⟩ rfl rfl hl.1 rfl (lv_room (Nat.le_of_ble_eq_true rfl)) dX0_begin_17 ⟨Nat.le_of_ble_eq_true rfl, Nat.le_of_ble_eq_true rfl⟩) hS (fun q _ h => hFc q h) hFc (fun u_11 t_11 H_11 locs_11 ht hvm hw_11 hB hz1 hk1 hS1 => ?_)
      obtain ⟨hP1, hK1, hD1⟩ := hB
      rw [ht] at hP1
      obtain ⟨hP2, hD2⟩ := va_join (wr := [(f3, .inl (cJ, 6, .inr (.inl fs))), (f4, .inl (cZ, 6, .inl fm)), (f5, .inl (cZ, 40, .inl fk))]) (w1 := [(fh, .inr (0, [.int 1, .ref f1, .ref f2, .ref f3, .ref f4, .ref f5, fw_lanes, fw_shortest, fw_longest, fw_leastAt, fw_greatestAt])), (f1, .inl (cI, 6, .inl (upd (ov fl i7 0) (((nI i7)).toNatClampNeg) 0))), (f2, .inl (cI, 6, .inl (upd (ov fg i7 0) (((nI i7)).toNatClampNeg) 0)))]) hP hD [0, 1, 2] [3, 4, 5] rfl rfl (by decide) (by decide) hk1 hFc hP1 hD1
      clear hPc hDc hFc hP1 hD1 hK1 hk1 hz1 hvm ht
      replace hP : va_P (dC, dI) vwCl [(f3, .inl (cJ, 6, .inr (.inl fs))), (f4, .inl (cZ, 6, .inl fm)), (f5, .inl (cZ, 40, .inl fk)), (fh, .inr (0, [.int 1, .ref f1, .ref f2, .ref f3, .ref f4, .ref f5, fw_lanes, fw_shortest, fw_longest, fw_leastAt, fw_greatestAt])), (f1, .inl (cI, 6, .inl (upd (ov fl i7 0) (((nI i7)).toNatClampNeg) 0))), (f2, .inl (cI, 6, .inl (upd (ov fg i7 0) (((nI i7)).toNatClampNeg) 0)))] H_11 := hP2
      replace hD : va_D A [(f3, .inl (cJ, 6, .inr (.inl fs))), (f4, .inl (cZ, 6, .inl fm)), (f5, .inl (cZ, 40, .inl fk)), (fh, .inr (0, [.int 1, .ref f1, .ref f2, .ref f3, .ref f4, .ref f5, fw_lanes, fw_shortest, fw_longest, fw_leastAt, fw_greatestAt])), (f1, .inl (cI, 6, .inl (upd (ov fl i7 0) (((nI i7)).toNatClampNeg) 0))), (f2, .inl (cI, 6, .inl (upd (ov fg i7 0) (((nI i7)).toNatClampNeg) 0)))] := hD2
      replace hS := hS1
      clear hP2 hD2 hS1
      rw [ov_st fl (i := i7) 0 (by omega)] at hP hD
      rw [ov_st fg (i := i7) 0 (by omega)] at hP hD
      refine lv_iinc (v := nI (i7 + 1)) (lv' := [(1, .int (nI (i7 + 1))), (0, .ref fh)]) hx hb dX0_begin_20 hl (k := 0) rfl (by rw [show Int32.ofInt 1 = (1 : Int32) from by decide]; exact nI_1 _) (by decide) rfl (fun ls1 hl1 => ?_)
      replace hl := hl1; clear hl1
      refine lv_goto (tgt := 7) hx hb dX0_begin_23 (by decide) ?_
      exact ih_7 _ _ _ (hP.sub [3, 4, 5, 0, 1, 2] rfl) (hD.sub [3, 4, 5, 0, 1, 2] (by decide) rfl) hS (lv_sub hl [0, 1] rfl)

def w_X0_countKnown : List Cond := .code yX0_countKnown cX0_countKnown 3 (some .int) :: ([.fieldLink RX0 30 "ArraySegments$Facts" "known" "[Z"] ++ wsX00)
theorem inc_X0_countKnown_X0 : ∀ w ∈ wsX00, w ∈ w_X0_countKnown := fun _ h => List.mem_cons_of_mem _ (List.mem_append_right _ h)
abbrev pw_X0_countKnown (cI cJ cZ : ClassId) (fh : Nat) (f5 : Nat) (fx_isReached : Value) (fx_least : Value) (fx_greatest : Value) (fx_sites : Value) (fx_maybeNull : Value) (fx_lanes : Value) (fx_shortest : Value) (fx_longest : Value) (fx_leastAt : Value) (fx_greatestAt : Value) (fk : Nat → Int32) : va_W := [(fh, .inr (0, [fx_isReached, fx_least, fx_greatest, fx_sites, fx_maybeNull, .ref f5, fx_lanes, fx_shortest, fx_longest, fx_leastAt, fx_greatestAt])), (f5, .inl (cZ, 40, .inl (ov fk 40 0)))]
set_option maxHeartbeats 4000000 in
set_option maxRecDepth 100000 in
theorem c_X0_countKnown (l : Launch) (dC : Nat → ClassId) (dI : Nat → Nat → Nat) (cI cJ cZ : ClassId) (fh : Nat) (f5 : Nat) (fx_isReached : Value) (fx_least : Value) (fx_greatest : Value) (fx_sites : Value) (fx_maybeNull : Value) (fx_lanes : Value) (fx_shortest : Value) (fx_longest : Value) (fx_leastAt : Value) (fx_greatestAt : Value) (fk : Nat → Int32) (sz : Nat) : Met l yX0_countKnown w_X0_countKnown ({ frames := 0, cells := 0, slots := 0, locals := 0 }) (va_Pc [.ref fh] (cPre dC dI cI cJ cZ sz (pw_X0_countKnown cI cJ cZ fh f5 fx_isReached fx_least fx_greatest fx_sites fx_maybeNull fx_lanes fx_shortest fx_longest fx_leastAt fx_greatestAt fk))) (va_Qi (fun (r : Int32) (u : Nat → Nat) => r = 0) (fun (u : Nat → Nat) => cPost dC dI cI cJ cZ (va_A (pw_X0_countKnown cI cJ cZ fh f5 fx_isReached fx_least fx_greatest fx_sites fx_maybeNull fx_lanes fx_shortest fx_longest fx_leastAt fx_greatestAt fk) sz) [(fh, .inr (0, [fx_isReached, fx_least, fx_greatest, fx_sites, fx_maybeNull, .ref f5, fx_lanes, fx_shortest, fx_longest, fx_leastAt, fx_greatestAt])), (f5, .inl (cZ, 40, .inl (ov fk 40 0)))]) (va_A (pw_X0_countKnown cI cJ cZ fh f5 fx_isReached fx_least fx_greatest fx_sites fx_maybeNull fx_lanes fx_shortest fx_longest fx_leastAt fx_greatestAt fk) sz)) 0 0 (va_A (pw_X0_countKnown cI cJ cZ fh f5 fx_isReached fx_least fx_greatest fx_sites fx_maybeNull fx_lanes fx_shortest fx_longest fx_leastAt fx_greatestAt fk) sz) := by
  refine Met.ofW (cc := cX0_countKnown) (maxL := 3) (ret := (some .int)) (by decide) rfl ?_
  intro p e s m args below meth c s₁ B hml hv
  obtain ⟨rfl, hsz, hP, hK, hD0, hN⟩ := hv
  have hx := B.exec
  have hb := B.bytes
  have hr := B.returns
  have hts := atoms_spec (ws := w_X0_countKnown) B.pre
  have hown : s.vm.findClass RX0 = some m.cls := findClass_of_methodNamed B.named
  have hlocks := B.notSynchronized
  subst hsz
  have hD := hD0.self (sz := s.heap.size)
  generalize hAe : va_A (pw_X0_countKnown cI cJ cZ fh f5 fx_isReached fx_least fx_greatest fx_sites fx_maybeNull fx_lanes fx_shortest fx_longest fx_leastAt fx_greatestAt fk) s.heap.size = A at hD ⊢
  have hA : ∀ q : Nat, s.heap.size ≤ q → A q := fun q h => by rw [← hAe]; exact Or.inr h
  clear hAe hD0
  have hS : va_S A s.heap s.heap [] := va_S.rf
  replace hP : va_P (dC, dI) vwCl [(fh, .inr (0, [fx_isReached, fx_least, fx_greatest, fx_sites, fx_maybeNull, .ref f5, fx_lanes, fx_shortest, fx_longest, fx_leastAt, fx_greatestAt])), (f5, .inl (cZ, 40, .inl (ov fk 40 0)))] s.heap := hP
  replace hD : va_D A [(fh, .inr (0, [fx_isReached, fx_least, fx_greatest, fx_sites, fx_maybeNull, .ref f5, fx_lanes, fx_shortest, fx_longest, fx_leastAt, fx_greatestAt])), (f5, .inl (cZ, 40, .inl (ov fk 40 0)))] := hD
  have hl := lv_entry ([.ref fh]) (n := 3) (Nat.le_of_ble_eq_true rfl)
  rw [lg_entry_eq]
  generalize (lg_sl ([.ref fh]) ++ List.replicate (3 - (lg_sl ([.ref fh])).length) Slot.unset).toArray = ls at hl ⊢
  replace hl : lv_has ls 3 [(0, .ref fh)] := hl
  refine lv_iconst (v := 0) hx hb dX0_countKnown_0 (by decide) ?_
  refine lv_istore_n (lv' := [(1, .int 0), (0, .ref fh)]) hx hb dX0_countKnown_1 rfl hl (by decide) rfl (fun ls1 hl1 => ?_)
  replace hl := hl1; clear hl1
  refine lv_iconst (v := 0) hx hb dX0_countKnown_2 (by decide) ?_
  refine lv_istore_n (lv' := [(2, .int 0), (1, .int 0), (0, .ref fh)]) hx hb dX0_countKnown_3 rfl hl (by decide) rfl (fun ls1 hl1 => ?_)
  replace hl := hl1; clear hl1
  refine my_loop 40 (fun i => [(fh, .inr (0, [fx_isReached, fx_least, fx_greatest, fx_sites, fx_maybeNull, .ref f5, fx_lanes, fx_shortest, fx_longest, fx_leastAt, fx_greatestAt])), (f5, .inl (cZ, 40, .inl (ov fk 40 0)))]) (fun i => [(2, .int (nI i)), (1, .int 0), (0, .ref fh)]) (H0 := s.heap) (A := A) (D := (dC, dI)) (cl := vwCl) (by first | (simp only [ov_0, ovL_0]; exact hP) | exact hP) (by first | (simp only [ov_0, ovL_0]; exact hD) | exact hD) hS (by exact hl) (fun H_4 locs_4 ls1 hP1 hD1 hS1 hl1 => ?_) (fun i4 hlt_i4 ih_4 H_4 locs_4 ls1 hP1 hD1 hS1 hl1 => ?_)
  · -- behind
    replace hP : va_P (dC, dI) vwCl [(fh, .inr (0, [fx_isReached, fx_least, fx_greatest, fx_sites, fx_maybeNull, .ref f5, fx_lanes, fx_shortest, fx_longest, fx_leastAt, fx_greatestAt])), (f5, .inl (cZ, 40, .inl (ov fk 40 0)))] H_4 := hP1
    replace hD : va_D A [(fh, .inr (0, [fx_isReached, fx_least, fx_greatest, fx_sites, fx_maybeNull, .ref f5, fx_lanes, fx_shortest, fx_longest, fx_leastAt, fx_greatestAt])), (f5, .inl (cZ, 40, .inl (ov fk 40 0)))] := hD1
    replace hS := hS1
    clear hP1 hD1 hS1
    replace hl : lv_has ls1 3 [(2, .int (nI 40)), (1, .int 0), (0, .ref fh)] := hl1
    clear hl1
    refine lv_iload_n hx hb dX0_countKnown_4 rfl (lv_at hl 0 rfl) ?_
    refine lv_bipush (v := 40) hx hb dX0_countKnown_5 (by decide) ?_
    refine lv_icmp_ge (tgt := 28) hx hb dX0_countKnown_7 (by decide) (fun c_1 => ?_) (fun c_1 => ?_)
    · -- on
      refine lv_iload_n hx hb dX0_countKnown_28 rfl (lv_at hl 1 rfl) ?_
      have hP9 := hP.sub (ws' := [(fh, .inr (0, [fx_isReached, fx_least, fx_greatest, fx_sites, fx_maybeNull, .ref f5, fx_lanes, fx_shortest, fx_longest, fx_leastAt, fx_greatestAt])), (f5, .inl (cZ, 40, .inl (ov fk 40 0)))]) [0, 1] rfl
      have hD9 := hD.sub (ws' := [(fh, .inr (0, [fx_isReached, fx_least, fx_greatest, fx_sites, fx_maybeNull, .ref f5, fx_lanes, fx_shortest, fx_longest, fx_leastAt, fx_greatestAt])), (f5, .inl (cZ, 40, .inl (ov fk 40 0)))]) [0, 1] (by decide) rfl
      exact W.iret (v := 0) hx hb hr (fun t ht hW => ⟨⟨0, (fun _ => 0), rfl, rfl, by rw [ht]; exact hP9, va_K.moved hW.alike hK, hD9⟩, hS.F ht⟩) hS.2.2 dX0_countKnown_29
    · exact absurd (by decide) c_1
  · -- once
    replace hP : va_P (dC, dI) vwCl [(fh, .inr (0, [fx_isReached, fx_least, fx_greatest, fx_sites, fx_maybeNull, .ref f5, fx_lanes, fx_shortest, fx_longest, fx_leastAt, fx_greatestAt])), (f5, .inl (cZ, 40, .inl (ov fk 40 0)))] H_4 := hP1
    replace hD : va_D A [(fh, .inr (0, [fx_isReached, fx_least, fx_greatest, fx_sites, fx_maybeNull, .ref f5, fx_lanes, fx_shortest, fx_longest, fx_leastAt, fx_greatestAt])), (f5, .inl (cZ, 40, .inl (ov fk 40 0)))] := hD1
    replace hS := hS1
    clear hP1 hD1 hS1
    replace hl : lv_has ls1 3 [(2, .int (nI i4)), (1, .int 0), (0, .ref fh)] := hl1
    clear hl1
    refine lv_iload_n hx hb dX0_countKnown_4 rfl (lv_at hl 0 rfl) ?_
    refine lv_bipush (v := 40) hx hb dX0_countKnown_5 (by decide) ?_
    refine lv_icmp_ge (tgt := 28) hx hb dX0_countKnown_7 (by decide) (fun c_2 => ?_) (fun c_2 => ?_)
    · exact absurd c_2 (nI_ge hlt_i4 (by decide))
    · -- on
      refine lv_aload_n hx hb dX0_countKnown_10 rfl (lv_at hl 2 rfl) ?_
      refine va_get (D := (dC, dI)) (ci := 0) (v := .ref f5) (C := RX0) (T := TX0) (N := 11) hx hb hts inc_X0_countKnown_X0 hown hK hP 0 rfl rfl 5 (by decide) (hts (.fieldLink RX0 30 "ArraySegments$Facts" "known" "[Z") (List.mem_of_getElem? (i := 1) rfl)) (fun _ h9 => h9) rfl dX0_countKnown_11 ?_
      refine lv_iload_n hx hb dX0_countKnown_14 rfl (lv_at hl 0 rfl) ?_
      refine va_zald hx hb hK hP 1 2 rfl rfl (vp_in_nI (by omega) (by decide)) dX0_countKnown_15 ?_
      refine my_topi (y := 0) (ov_nI fk 0 (by omega) (by decide)) ?_
      refine lv_if_eq (tgt := 22) hx hb dX0_countKnown_16 (by decide) (fun c_3 => ?_) (fun c_3 => ?_)
      · -- on
        refine lv_iinc (v := nI (i4 + 1)) (lv' := [(2, .int (nI (i4 + 1))), (1, .int 0), (0, .ref fh)]) hx hb dX0_countKnown_22 hl (k := 0) rfl (by rw [show Int32.ofInt 1 = (1 : Int32) from by decide]; exact nI_1 _) (by decide) rfl (fun ls1 hl1 => ?_)
        replace hl := hl1; clear hl1
        refine lv_goto (tgt := 4) hx hb dX0_countKnown_25 (by decide) ?_
        exact ih_4 _ _ _ (hP.sub [0, 1] rfl) (hD.sub [0, 1] (by decide) rfl) hS (lv_sub hl [0, 1, 2] rfl)
      · exact absurd (by decide) c_3

def w_X0_init : List Cond := .code yX0_init cX0_init 1 none :: ([.methodLink RX0 3 objectInit, .instanceMethod objectInit, .code objectInit ⟨#[0xb1]⟩ 1 none, .fieldLink RX0 9 "ArraySegments$Facts" "isReached" "Z", .arrayClass .int, .fieldLink RX0 15 "ArraySegments$Facts" "least" "[I", .fieldLink RX0 19 "ArraySegments$Facts" "greatest" "[I", .arrayClass .long, .fieldLink RX0 22 "ArraySegments$Facts" "sites" "[J", .arrayClass .boolean, .fieldLink RX0 26 "ArraySegments$Facts" "maybeNull" "[Z", .fieldLink RX0 30 "ArraySegments$Facts" "known" "[Z", .fieldLink RX0 33 "ArraySegments$Facts" "lanes" "[I", .fieldLink RX0 36 "ArraySegments$Facts" "shortest" "[I", .fieldLink RX0 39 "ArraySegments$Facts" "longest" "[I", .fieldLink RX0 42 "ArraySegments$Facts" "leastAt" "[I", .fieldLink RX0 45 "ArraySegments$Facts" "greatestAt" "[I"] ++ wsX00)
theorem inc_X0_init_X0 : ∀ w ∈ wsX00, w ∈ w_X0_init := fun _ h => List.mem_cons_of_mem _ (List.mem_append_right _ h)
abbrev pw_X0_init (cI cJ cZ : ClassId) (fh : Nat) : va_W := [(fh, .inr (0, [.int 0, .null, .null, .null, .null, .null, .null, .null, .null, .null, .null]))]
set_option maxHeartbeats 4000000 in
set_option maxRecDepth 100000 in
theorem c_X0_init (l : Launch) (dC : Nat → ClassId) (dI : Nat → Nat → Nat) (cI cJ cZ : ClassId) (fh : Nat) (sz : Nat) : Met l yX0_init w_X0_init ({ frames := 1, cells := 10, slots := 1144, locals := 12 }) (va_Pc [.ref fh] (cPre dC dI cI cJ cZ sz (pw_X0_init cI cJ cZ fh))) (va_Qv (fun (u : Nat → Nat) => True) (fun (u : Nat → Nat) => cPost dC dI cI cJ cZ (va_A (pw_X0_init cI cJ cZ fh) sz) [(fh, .inr (0, [.int 0, .ref (u 0), .ref (u 1), .ref (u 2), .ref (u 3), .ref (u 4), .ref (u 5), .ref (u 6), .ref (u 7), .ref (u 8), .ref (u 9)])), ((u 0), .inl (cI, 6, .inl (fun _ => 0))), ((u 1), .inl (cI, 6, .inl (fun _ => 0))), ((u 2), .inl (cJ, 6, .inr (.inl (fun _ => 0)))), ((u 3), .inl (cZ, 6, .inl (fun _ => 0))), ((u 4), .inl (cZ, 40, .inl (fun _ => 0))), ((u 5), .inl (cI, 40, .inl (fun _ => 0))), ((u 6), .inl (cI, 40, .inl (fun _ => 0))), ((u 7), .inl (cI, 40, .inl (fun _ => 0))), ((u 8), .inl (cI, 480, .inl (fun _ => 0))), ((u 9), .inl (cI, 480, .inl (fun _ => 0)))]) (va_A (pw_X0_init cI cJ cZ fh) sz)) 10 1144 (va_A (pw_X0_init cI cJ cZ fh) sz) := by
  refine Met.ofW (cc := cX0_init) (maxL := 1) (ret := none) (by decide) rfl ?_
  intro p e s m args below meth c s₁ B hml hv
  obtain ⟨rfl, hsz, hP, hK, hD0, hN⟩ := hv
  have hx := B.exec
  have hb := B.bytes
  have hr := B.returns
  have hts := atoms_spec (ws := w_X0_init) B.pre
  have hown : s.vm.findClass RX0 = some m.cls := findClass_of_methodNamed B.named
  have hlocks := B.notSynchronized
  have hin : meth.name = "<init>" := (name_of_methodNamed B.named B.method).1
  subst hsz
  have hD := hD0.self (sz := s.heap.size)
  generalize hAe : va_A (pw_X0_init cI cJ cZ fh) s.heap.size = A at hD ⊢
  have hA : ∀ q : Nat, s.heap.size ≤ q → A q := fun q h => by rw [← hAe]; exact Or.inr h
  clear hAe hD0
  have hS : va_S A s.heap s.heap [] := va_S.rf
  replace hP : va_P (dC, dI) vwCl [(fh, .inr (0, [.int 0, .null, .null, .null, .null, .null, .null, .null, .null, .null, .null]))] s.heap := hP
  replace hD : va_D A [(fh, .inr (0, [.int 0, .null, .null, .null, .null, .null, .null, .null, .null, .null, .null]))] := hD
  have hl := lv_entry ([.ref fh]) (n := 1) (Nat.le_of_ble_eq_true rfl)
  rw [lg_entry_eq]
  generalize (lg_sl ([.ref fh]) ++ List.replicate (1 - (lg_sl ([.ref fh])).length) Slot.unset).toArray = ls at hl ⊢
  replace hl : lv_has ls 1 [(0, .ref fh)] := hl
  refine lv_aload_n hx hb dX0_init_0 rfl (lv_at hl 0 rfl) ?_
  refine W.objInit hx hb hown (hts (.methodLink RX0 3 objectInit) (List.mem_of_getElem? (i := 1) rfl)) (hts (.instanceMethod objectInit) (List.mem_of_getElem? (i := 2) rfl)) (hts (.code objectInit ⟨#[0xb1]⟩ 1 none) (List.mem_of_getElem? (i := 3) rfl)) rfl (by rw [hml]; exact hl.1) rfl dX0_init_1 (Nat.le_of_ble_eq_true rfl) (Nat.le_of_ble_eq_true rfl) ?_
  refine W.eq (g2 := F0 m 4 _ []) rfl ?_
  refine lv_aload_n hx hb dX0_init_4 rfl (lv_at hl 0 rfl) ?_
  refine lv_iconst (v := 0) hx hb dX0_init_5 (by decide) ?_
  refine va_put (D := (dC, dI)) (ci := 0) (v := .int 0) (ty := .boolean) (C := RX0) (T := TX0) (N := 11) hx hb hts inc_X0_init_X0 tyX0 tyX0_ok nmX0 hown hK hP hD hS 0 rfl rfl 0 (by decide) (hts (.fieldLink RX0 9 "ArraySegments$Facts" "isReached" "Z") (List.mem_of_getElem? (i := 4) rfl)) (fun _ h9 => h9) rfl (by decide +kernel) rfl rfl (Nat.le_of_ble_eq_true rfl) dX0_init_6 (fun H_1 locs_1 hP1 hD1 hS1 => ?_)
  replace hP : va_P (dC, dI) vwCl [(fh, .inr (0, [.int 0, .null, .null, .null, .null, .null, .null, .null, .null, .null, .null]))] H_1 := hP1
  replace hD : va_D A [(fh, .inr (0, [.int 0, .null, .null, .null, .null, .null, .null, .null, .null, .null, .null]))] := hD1
  replace hS := hS1
  clear hP1 hD1 hS1
  refine lv_aload_n hx hb dX0_init_9 rfl (lv_at hl 0 rfl) ?_
  refine lv_bipush (v := 6) hx hb dX0_init_10 (by decide) ?_
  refine my_newaI hx hb (hts (.arrayClass .int) (List.mem_of_getElem? (i := 5) rfl)) hK hP hD hS hA (N' := 6) (by decide) (by decide) (by decide) (Nat.le_of_ble_eq_true rfl) (Nat.le_of_ble_eq_true rfl) dX0_init_12 (fun q_2 H_2 hP1 hD1 hS1 => ?_)
  replace hP : va_P (dC, dI) vwCl [(fh, .inr (0, [.int 0, .null, .null, .null, .null, .null, .null, .null, .null, .null, .null])), (q_2, .inl (cI, 6, .inl (fun _ => 0)))] H_2 := hP1
  replace hD : va_D A [(fh, .inr (0, [.int 0, .null, .null, .null, .null, .null, .null, .null, .null, .null, .null])), (q_2, .inl (cI, 6, .inl (fun _ => 0)))] := hD1
  replace hS := hS1
  clear hP1 hD1 hS1
  refine W.widen (k := 1) (n := 6) (Nat.le_of_ble_eq_true rfl) (Nat.le_of_ble_eq_true rfl) ?_
  refine va_putF (D := (dC, dI)) (ci := 0) (v := .ref q_2) (ty := .array .int) (C := RX0) (T := TX0) (N := 11) hx hb hts inc_X0_init_X0 tyX0 tyX0_ok nmX0 hown hK hP hD hS 0 rfl rfl 1 (by decide) (hts (.fieldLink RX0 15 "ArraySegments$Facts" "least" "[I") (List.mem_of_getElem? (i := 6) rfl)) (fun _ h9 => h9) rfl hin rfl (by decide +kernel) rfl rfl (Nat.le_of_ble_eq_true rfl) dX0_init_14 (fun H_3 locs_3 hP1 hD1 hS1 => ?_)
  replace hP : va_P (dC, dI) vwCl [(fh, .inr (0, [.int 0, .ref q_2, .null, .null, .null, .null, .null, .null, .null, .null, .null])), (q_2, .inl (cI, 6, .inl (fun _ => 0)))] H_3 := hP1
  replace hD : va_D A [(fh, .inr (0, [.int 0, .ref q_2, .null, .null, .null, .null, .null, .null, .null, .null, .null])), (q_2, .inl (cI, 6, .inl (fun _ => 0)))] := hD1
  replace hS := hS1
  clear hP1 hD1 hS1
  refine lv_aload_n hx hb dX0_init_17 rfl (lv_at hl 0 rfl) ?_
  refine lv_bipush (v := 6) hx hb dX0_init_18 (by decide) ?_
  refine my_newaI hx hb (hts (.arrayClass .int) (List.mem_of_getElem? (i := 5) rfl)) hK hP hD hS hA (N' := 6) (by decide) (by decide) (by decide) (Nat.le_of_ble_eq_true rfl) (Nat.le_of_ble_eq_true rfl) dX0_init_20 (fun q_4 H_4 hP1 hD1 hS1 => ?_)
  replace hP : va_P (dC, dI) vwCl [(fh, .inr (0, [.int 0, .ref q_2, .null, .null, .null, .null, .null, .null, .null, .null, .null])), (q_2, .inl (cI, 6, .inl (fun _ => 0))), (q_4, .inl (cI, 6, .inl (fun _ => 0)))] H_4 := hP1
  replace hD : va_D A [(fh, .inr (0, [.int 0, .ref q_2, .null, .null, .null, .null, .null, .null, .null, .null, .null])), (q_2, .inl (cI, 6, .inl (fun _ => 0))), (q_4, .inl (cI, 6, .inl (fun _ => 0)))] := hD1
  replace hS := hS1
  clear hP1 hD1 hS1
  refine W.widen (k := 2) (n := 12) (Nat.le_of_ble_eq_true rfl) (Nat.le_of_ble_eq_true rfl) ?_
  refine va_putF (D := (dC, dI)) (ci := 0) (v := .ref q_4) (ty := .array .int) (C := RX0) (T := TX0) (N := 11) hx hb hts inc_X0_init_X0 tyX0 tyX0_ok nmX0 hown hK hP hD hS 0 rfl rfl 2 (by decide) (hts (.fieldLink RX0 19 "ArraySegments$Facts" "greatest" "[I") (List.mem_of_getElem? (i := 7) rfl)) (fun _ h9 => h9) rfl hin rfl (by decide +kernel) rfl rfl (Nat.le_of_ble_eq_true rfl) dX0_init_22 (fun H_5 locs_5 hP1 hD1 hS1 => ?_)
  replace hP : va_P (dC, dI) vwCl [(fh, .inr (0, [.int 0, .ref q_2, .ref q_4, .null, .null, .null, .null, .null, .null, .null, .null])), (q_2, .inl (cI, 6, .inl (fun _ => 0))), (q_4, .inl (cI, 6, .inl (fun _ => 0)))] H_5 := hP1
  replace hD : va_D A [(fh, .inr (0, [.int 0, .ref q_2, .ref q_4, .null, .null, .null, .null, .null, .null, .null, .null])), (q_2, .inl (cI, 6, .inl (fun _ => 0))), (q_4, .inl (cI, 6, .inl (fun _ => 0)))] := hD1
  replace hS := hS1
  clear hP1 hD1 hS1
  refine lv_aload_n hx hb dX0_init_25 rfl (lv_at hl 0 rfl) ?_
  refine lv_bipush (v := 6) hx hb dX0_init_26 (by decide) ?_
  refine my_newaJ hx hb (hts (.arrayClass .long) (List.mem_of_getElem? (i := 8) rfl)) hK hP hD hS hA (N' := 6) (by decide) (by decide) (by decide) (Nat.le_of_ble_eq_true rfl) (Nat.le_of_ble_eq_true rfl) dX0_init_28 (fun q_6 H_6 hP1 hD1 hS1 => ?_)
  replace hP : va_P (dC, dI) vwCl [(fh, .inr (0, [.int 0, .ref q_2, .ref q_4, .null, .null, .null, .null, .null, .null, .null, .null])), (q_2, .inl (cI, 6, .inl (fun _ => 0))), (q_4, .inl (cI, 6, .inl (fun _ => 0))), (q_6, .inl (cJ, 6, .inr (.inl (fun _ => 0))))] H_6 := hP1
  replace hD : va_D A [(fh, .inr (0, [.int 0, .ref q_2, .ref q_4, .null, .null, .null, .null, .null, .null, .null, .null])), (q_2, .inl (cI, 6, .inl (fun _ => 0))), (q_4, .inl (cI, 6, .inl (fun _ => 0))), (q_6, .inl (cJ, 6, .inr (.inl (fun _ => 0))))] := hD1
  replace hS := hS1
  clear hP1 hD1 hS1
  refine W.widen (k := 3) (n := 18) (Nat.le_of_ble_eq_true rfl) (Nat.le_of_ble_eq_true rfl) ?_
  refine va_putF (D := (dC, dI)) (ci := 0) (v := .ref q_6) (ty := .array .long) (C := RX0) (T := TX0) (N := 11) hx hb hts inc_X0_init_X0 tyX0 tyX0_ok nmX0 hown hK hP hD hS 0 rfl rfl 3 (by decide) (hts (.fieldLink RX0 22 "ArraySegments$Facts" "sites" "[J") (List.mem_of_getElem? (i := 9) rfl)) (fun _ h9 => h9) rfl hin rfl (by decide +kernel) rfl rfl (Nat.le_of_ble_eq_true rfl) dX0_init_30 (fun H_7 locs_7 hP1 hD1 hS1 => ?_)
  replace hP : va_P (dC, dI) vwCl [(fh, .inr (0, [.int 0, .ref q_2, .ref q_4, .ref q_6, .null, .null, .null, .null, .null, .null, .null])), (q_2, .inl (cI, 6, .inl (fun _ => 0))), (q_4, .inl (cI, 6, .inl (fun _ => 0))), (q_6, .inl (cJ, 6, .inr (.inl (fun _ => 0))))] H_7 := hP1
  replace hD : va_D A [(fh, .inr (0, [.int 0, .ref q_2, .ref q_4, .ref q_6, .null, .null, .null, .null, .null, .null, .null])), (q_2, .inl (cI, 6, .inl (fun _ => 0))), (q_4, .inl (cI, 6, .inl (fun _ => 0))), (q_6, .inl (cJ, 6, .inr (.inl (fun _ => 0))))] := hD1
  replace hS := hS1
  clear hP1 hD1 hS1
  refine lv_aload_n hx hb dX0_init_33 rfl (lv_at hl 0 rfl) ?_
  refine lv_bipush (v := 6) hx hb dX0_init_34 (by decide) ?_
  refine my_newaZ hx hb (hts (.arrayClass .boolean) (List.mem_of_getElem? (i := 10) rfl)) hK hP hD hS hA (N' := 6) (by decide) (by decide) (by decide) (Nat.le_of_ble_eq_true rfl) (Nat.le_of_ble_eq_true rfl) dX0_init_36 (fun q_8 H_8 hP1 hD1 hS1 => ?_)
  replace hP : va_P (dC, dI) vwCl [(fh, .inr (0, [.int 0, .ref q_2, .ref q_4, .ref q_6, .null, .null, .null, .null, .null, .null, .null])), (q_2, .inl (cI, 6, .inl (fun _ => 0))), (q_4, .inl (cI, 6, .inl (fun _ => 0))), (q_6, .inl (cJ, 6, .inr (.inl (fun _ => 0)))), (q_8, .inl (cZ, 6, .inl (fun _ => 0)))] H_8 := hP1
  replace hD : va_D A [(fh, .inr (0, [.int 0, .ref q_2, .ref q_4, .ref q_6, .null, .null, .null, .null, .null, .null, .null])), (q_2, .inl (cI, 6, .inl (fun _ => 0))), (q_4, .inl (cI, 6, .inl (fun _ => 0))), (q_6, .inl (cJ, 6, .inr (.inl (fun _ => 0)))), (q_8, .inl (cZ, 6, .inl (fun _ => 0)))] := hD1
  replace hS := hS1
  clear hP1 hD1 hS1
  refine W.widen (k := 4) (n := 24) (Nat.le_of_ble_eq_true rfl) (Nat.le_of_ble_eq_true rfl) ?_
  refine va_putF (D := (dC, dI)) (ci := 0) (v := .ref q_8) (ty := .array .boolean) (C := RX0) (T := TX0) (N := 11) hx hb hts inc_X0_init_X0 tyX0 tyX0_ok nmX0 hown hK hP hD hS 0 rfl rfl 4 (by decide) (hts (.fieldLink RX0 26 "ArraySegments$Facts" "maybeNull" "[Z") (List.mem_of_getElem? (i := 11) rfl)) (fun _ h9 => h9) rfl hin rfl (by decide +kernel) rfl rfl (Nat.le_of_ble_eq_true rfl) dX0_init_38 (fun H_9 locs_9 hP1 hD1 hS1 => ?_)
  replace hP : va_P (dC, dI) vwCl [(fh, .inr (0, [.int 0, .ref q_2, .ref q_4, .ref q_6, .ref q_8, .null, .null, .null, .null, .null, .null])), (q_2, .inl (cI, 6, .inl (fun _ => 0))), (q_4, .inl (cI, 6, .inl (fun _ => 0))), (q_6, .inl (cJ, 6, .inr (.inl (fun _ => 0)))), (q_8, .inl (cZ, 6, .inl (fun _ => 0)))] H_9 := hP1
  replace hD : va_D A [(fh, .inr (0, [.int 0, .ref q_2, .ref q_4, .ref q_6, .ref q_8, .null, .null, .null, .null, .null, .null])), (q_2, .inl (cI, 6, .inl (fun _ => 0))), (q_4, .inl (cI, 6, .inl (fun _ => 0))), (q_6, .inl (cJ, 6, .inr (.inl (fun _ => 0)))), (q_8, .inl (cZ, 6, .inl (fun _ => 0)))] := hD1
  replace hS := hS1
  clear hP1 hD1 hS1
  refine lv_aload_n hx hb dX0_init_41 rfl (lv_at hl 0 rfl) ?_
  refine lv_bipush (v := 40) hx hb dX0_init_42 (by decide) ?_
  refine my_newaZ hx hb (hts (.arrayClass .boolean) (List.mem_of_getElem? (i := 10) rfl)) hK hP hD hS hA (N' := 40) (by decide) (by decide) (by decide) (Nat.le_of_ble_eq_true rfl) (Nat.le_of_ble_eq_true rfl) dX0_init_44 (fun q_10 H_10 hP1 hD1 hS1 => ?_)
  replace hP : va_P (dC, dI) vwCl [(fh, .inr (0, [.int 0, .ref q_2, .ref q_4, .ref q_6, .ref q_8, .null, .null, .null, .null, .null, .null])), (q_2, .inl (cI, 6, .inl (fun _ => 0))), (q_4, .inl (cI, 6, .inl (fun _ => 0))), (q_6, .inl (cJ, 6, .inr (.inl (fun _ => 0)))), (q_8, .inl (cZ, 6, .inl (fun _ => 0))), (q_10, .inl (cZ, 40, .inl (fun _ => 0)))] H_10 := hP1
  replace hD : va_D A [(fh, .inr (0, [.int 0, .ref q_2, .ref q_4, .ref q_6, .ref q_8, .null, .null, .null, .null, .null, .null])), (q_2, .inl (cI, 6, .inl (fun _ => 0))), (q_4, .inl (cI, 6, .inl (fun _ => 0))), (q_6, .inl (cJ, 6, .inr (.inl (fun _ => 0)))), (q_8, .inl (cZ, 6, .inl (fun _ => 0))), (q_10, .inl (cZ, 40, .inl (fun _ => 0)))] := hD1
  replace hS := hS1
  clear hP1 hD1 hS1
  refine W.widen (k := 5) (n := 64) (Nat.le_of_ble_eq_true rfl) (Nat.le_of_ble_eq_true rfl) ?_
  refine va_putF (D := (dC, dI)) (ci := 0) (v := .ref q_10) (ty := .array .boolean) (C := RX0) (T := TX0) (N := 11) hx hb hts inc_X0_init_X0 tyX0 tyX0_ok nmX0 hown hK hP hD hS 0 rfl rfl 5 (by decide) (hts (.fieldLink RX0 30 "ArraySegments$Facts" "known" "[Z") (List.mem_of_getElem? (i := 12) rfl)) (fun _ h9 => h9) rfl hin rfl (by decide +kernel) rfl rfl (Nat.le_of_ble_eq_true rfl) dX0_init_46 (fun H_11 locs_11 hP1 hD1 hS1 => ?_)
  replace hP : va_P (dC, dI) vwCl [(fh, .inr (0, [.int 0, .ref q_2, .ref q_4, .ref q_6, .ref q_8, .ref q_10, .null, .null, .null, .null, .null])), (q_2, .inl (cI, 6, .inl (fun _ => 0))), (q_4, .inl (cI, 6, .inl (fun _ => 0))), (q_6, .inl (cJ, 6, .inr (.inl (fun _ => 0)))), (q_8, .inl (cZ, 6, .inl (fun _ => 0))), (q_10, .inl (cZ, 40, .inl (fun _ => 0)))] H_11 := hP1
  replace hD : va_D A [(fh, .inr (0, [.int 0, .ref q_2, .ref q_4, .ref q_6, .ref q_8, .ref q_10, .null, .null, .null, .null, .null])), (q_2, .inl (cI, 6, .inl (fun _ => 0))), (q_4, .inl (cI, 6, .inl (fun _ => 0))), (q_6, .inl (cJ, 6, .inr (.inl (fun _ => 0)))), (q_8, .inl (cZ, 6, .inl (fun _ => 0))), (q_10, .inl (cZ, 40, .inl (fun _ => 0)))] := hD1
  replace hS := hS1
  clear hP1 hD1 hS1
  refine lv_aload_n hx hb dX0_init_49 rfl (lv_at hl 0 rfl) ?_
  refine lv_bipush (v := 40) hx hb dX0_init_50 (by decide) ?_
  refine my_newaI hx hb (hts (.arrayClass .int) (List.mem_of_getElem? (i := 5) rfl)) hK hP hD hS hA (N' := 40) (by decide) (by decide) (by decide) (Nat.le_of_ble_eq_true rfl) (Nat.le_of_ble_eq_true rfl) dX0_init_52 (fun q_12 H_12 hP1 hD1 hS1 => ?_)
  replace hP : va_P (dC, dI) vwCl [(fh, .inr (0, [.int 0, .ref q_2, .ref q_4, .ref q_6, .ref q_8, .ref q_10, .null, .null, .null, .null, .null])), (q_2, .inl (cI, 6, .inl (fun _ => 0))), (q_4, .inl (cI, 6, .inl (fun _ => 0))), (q_6, .inl (cJ, 6, .inr (.inl (fun _ => 0)))), (q_8, .inl (cZ, 6, .inl (fun _ => 0))), (q_10, .inl (cZ, 40, .inl (fun _ => 0))), (q_12, .inl (cI, 40, .inl (fun _ => 0)))] H_12 := hP1
  replace hD : va_D A [(fh, .inr (0, [.int 0, .ref q_2, .ref q_4, .ref q_6, .ref q_8, .ref q_10, .null, .null, .null, .null, .null])), (q_2, .inl (cI, 6, .inl (fun _ => 0))), (q_4, .inl (cI, 6, .inl (fun _ => 0))), (q_6, .inl (cJ, 6, .inr (.inl (fun _ => 0)))), (q_8, .inl (cZ, 6, .inl (fun _ => 0))), (q_10, .inl (cZ, 40, .inl (fun _ => 0))), (q_12, .inl (cI, 40, .inl (fun _ => 0)))] := hD1
  replace hS := hS1
  clear hP1 hD1 hS1
  refine W.widen (k := 6) (n := 104) (Nat.le_of_ble_eq_true rfl) (Nat.le_of_ble_eq_true rfl) ?_
  refine va_putF (D := (dC, dI)) (ci := 0) (v := .ref q_12) (ty := .array .int) (C := RX0) (T := TX0) (N := 11) hx hb hts inc_X0_init_X0 tyX0 tyX0_ok nmX0 hown hK hP hD hS 0 rfl rfl 6 (by decide) (hts (.fieldLink RX0 33 "ArraySegments$Facts" "lanes" "[I") (List.mem_of_getElem? (i := 13) rfl)) (fun _ h9 => h9) rfl hin rfl (by decide +kernel) rfl rfl (Nat.le_of_ble_eq_true rfl) dX0_init_54 (fun H_13 locs_13 hP1 hD1 hS1 => ?_)
  replace hP : va_P (dC, dI) vwCl [(fh, .inr (0, [.int 0, .ref q_2, .ref q_4, .ref q_6, .ref q_8, .ref q_10, .ref q_12, .null, .null, .null, .null])), (q_2, .inl (cI, 6, .inl (fun _ => 0))), (q_4, .inl (cI, 6, .inl (fun _ => 0))), (q_6, .inl (cJ, 6, .inr (.inl (fun _ => 0)))), (q_8, .inl (cZ, 6, .inl (fun _ => 0))), (q_10, .inl (cZ, 40, .inl (fun _ => 0))), (q_12, .inl (cI, 40, .inl (fun _ => 0)))] H_13 := hP1
  replace hD : va_D A [(fh, .inr (0, [.int 0, .ref q_2, .ref q_4, .ref q_6, .ref q_8, .ref q_10, .ref q_12, .null, .null, .null, .null])), (q_2, .inl (cI, 6, .inl (fun _ => 0))), (q_4, .inl (cI, 6, .inl (fun _ => 0))), (q_6, .inl (cJ, 6, .inr (.inl (fun _ => 0)))), (q_8, .inl (cZ, 6, .inl (fun _ => 0))), (q_10, .inl (cZ, 40, .inl (fun _ => 0))), (q_12, .inl (cI, 40, .inl (fun _ => 0)))] := hD1
  replace hS := hS1
  clear hP1 hD1 hS1
  refine lv_aload_n hx hb dX0_init_57 rfl (lv_at hl 0 rfl) ?_
  refine lv_bipush (v := 40) hx hb dX0_init_58 (by decide) ?_
  refine my_newaI hx hb (hts (.arrayClass .int) (List.mem_of_getElem? (i := 5) rfl)) hK hP hD hS hA (N' := 40) (by decide) (by decide) (by decide) (Nat.le_of_ble_eq_true rfl) (Nat.le_of_ble_eq_true rfl) dX0_init_60 (fun q_14 H_14 hP1 hD1 hS1 => ?_)
  replace hP : va_P (dC, dI) vwCl [(fh, .inr (0, [.int 0, .ref q_2, .ref q_4, .ref q_6, .ref q_8, .ref q_10, .ref q_12, .null, .null, .null, .null])), (q_2, .inl (cI, 6, .inl (fun _ => 0))), (q_4, .inl (cI, 6, .inl (fun _ => 0))), (q_6, .inl (cJ, 6, .inr (.inl (fun _ => 0)))), (q_8, .inl (cZ, 6, .inl (fun _ => 0))), (q_10, .inl (cZ, 40, .inl (fun _ => 0))), (q_12, .inl (cI, 40, .inl (fun _ => 0))), (q_14, .inl (cI, 40, .inl (fun _ => 0)))] H_14 := hP1
  replace hD : va_D A [(fh, .inr (0, [.int 0, .ref q_2, .ref q_4, .ref q_6, .ref q_8, .ref q_10, .ref q_12, .null, .null, .null, .null])), (q_2, .inl (cI, 6, .inl (fun _ => 0))), (q_4, .inl (cI, 6, .inl (fun _ => 0))), (q_6, .inl (cJ, 6, .inr (.inl (fun _ => 0)))), (q_8, .inl (cZ, 6, .inl (fun _ => 0))), (q_10, .inl (cZ, 40, .inl (fun _ => 0))), (q_12, .inl (cI, 40, .inl (fun _ => 0))), (q_14, .inl (cI, 40, .inl (fun _ => 0)))] := hD1
  replace hS := hS1
  clear hP1 hD1 hS1
  refine W.widen (k := 7) (n := 144) (Nat.le_of_ble_eq_true rfl) (Nat.le_of_ble_eq_true rfl) ?_
  refine va_putF (D := (dC, dI)) (ci := 0) (v := .ref q_14) (ty := .array .int) (C := RX0) (T := TX0) (N := 11) hx hb hts inc_X0_init_X0 tyX0 tyX0_ok nmX0 hown hK hP hD hS 0 rfl rfl 7 (by decide) (hts (.fieldLink RX0 36 "ArraySegments$Facts" "shortest" "[I") (List.mem_of_getElem? (i := 14) rfl)) (fun _ h9 => h9) rfl hin rfl (by decide +kernel) rfl rfl (Nat.le_of_ble_eq_true rfl) dX0_init_62 (fun H_15 locs_15 hP1 hD1 hS1 => ?_)
  replace hP : va_P (dC, dI) vwCl [(fh, .inr (0, [.int 0, .ref q_2, .ref q_4, .ref q_6, .ref q_8, .ref q_10, .ref q_12, .ref q_14, .null, .null, .null])), (q_2, .inl (cI, 6, .inl (fun _ => 0))), (q_4, .inl (cI, 6, .inl (fun _ => 0))), (q_6, .inl (cJ, 6, .inr (.inl (fun _ => 0)))), (q_8, .inl (cZ, 6, .inl (fun _ => 0))), (q_10, .inl (cZ, 40, .inl (fun _ => 0))), (q_12, .inl (cI, 40, .inl (fun _ => 0))), (q_14, .inl (cI, 40, .inl (fun _ => 0)))] H_15 := hP1
  replace hD : va_D A [(fh, .inr (0, [.int 0, .ref q_2, .ref q_4, .ref q_6, .ref q_8, .ref q_10, .ref q_12, .ref q_14, .null, .null, .null])), (q_2, .inl (cI, 6, .inl (fun _ => 0))), (q_4, .inl (cI, 6, .inl (fun _ => 0))), (q_6, .inl (cJ, 6, .inr (.inl (fun _ => 0)))), (q_8, .inl (cZ, 6, .inl (fun _ => 0))), (q_10, .inl (cZ, 40, .inl (fun _ => 0))), (q_12, .inl (cI, 40, .inl (fun _ => 0))), (q_14, .inl (cI, 40, .inl (fun _ => 0)))] := hD1
  replace hS := hS1
  clear hP1 hD1 hS1
  refine lv_aload_n hx hb dX0_init_65 rfl (lv_at hl 0 rfl) ?_
  refine lv_bipush (v := 40) hx hb dX0_init_66 (by decide) ?_
  refine my_newaI hx hb (hts (.arrayClass .int) (List.mem_of_getElem? (i := 5) rfl)) hK hP hD hS hA (N' := 40) (by decide) (by decide) (by decide) (Nat.le_of_ble_eq_true rfl) (Nat.le_of_ble_eq_true rfl) dX0_init_68 (fun q_16 H_16 hP1 hD1 hS1 => ?_)
  replace hP : va_P (dC, dI) vwCl [(fh, .inr (0, [.int 0, .ref q_2, .ref q_4, .ref q_6, .ref q_8, .ref q_10, .ref q_12, .ref q_14, .null, .null, .null])), (q_2, .inl (cI, 6, .inl (fun _ => 0))), (q_4, .inl (cI, 6, .inl (fun _ => 0))), (q_6, .inl (cJ, 6, .inr (.inl (fun _ => 0)))), (q_8, .inl (cZ, 6, .inl (fun _ => 0))), (q_10, .inl (cZ, 40, .inl (fun _ => 0))), (q_12, .inl (cI, 40, .inl (fun _ => 0))), (q_14, .inl (cI, 40, .inl (fun _ => 0))), (q_16, .inl (cI, 40, .inl (fun _ => 0)))] H_16 := hP1
  replace hD : va_D A [(fh, .inr (0, [.int 0, .ref q_2, .ref q_4, .ref q_6, .ref q_8, .ref q_10, .ref q_12, .ref q_14, .null, .null, .null])), (q_2, .inl (cI, 6, .inl (fun _ => 0))), (q_4, .inl (cI, 6, .inl (fun _ => 0))), (q_6, .inl (cJ, 6, .inr (.inl (fun _ => 0)))), (q_8, .inl (cZ, 6, .inl (fun _ => 0))), (q_10, .inl (cZ, 40, .inl (fun _ => 0))), (q_12, .inl (cI, 40, .inl (fun _ => 0))), (q_14, .inl (cI, 40, .inl (fun _ => 0))), (q_16, .inl (cI, 40, .inl (fun _ => 0)))] := hD1
  replace hS := hS1
  clear hP1 hD1 hS1
  refine W.widen (k := 8) (n := 184) (Nat.le_of_ble_eq_true rfl) (Nat.le_of_ble_eq_true rfl) ?_
  refine va_putF (D := (dC, dI)) (ci := 0) (v := .ref q_16) (ty := .array .int) (C := RX0) (T := TX0) (N := 11) hx hb hts inc_X0_init_X0 tyX0 tyX0_ok nmX0 hown hK hP hD hS 0 rfl rfl 8 (by decide) (hts (.fieldLink RX0 39 "ArraySegments$Facts" "longest" "[I") (List.mem_of_getElem? (i := 15) rfl)) (fun _ h9 => h9) rfl hin rfl (by decide +kernel) rfl rfl (Nat.le_of_ble_eq_true rfl) dX0_init_70 (fun H_17 locs_17 hP1 hD1 hS1 => ?_)
  replace hP : va_P (dC, dI) vwCl [(fh, .inr (0, [.int 0, .ref q_2, .ref q_4, .ref q_6, .ref q_8, .ref q_10, .ref q_12, .ref q_14, .ref q_16, .null, .null])), (q_2, .inl (cI, 6, .inl (fun _ => 0))), (q_4, .inl (cI, 6, .inl (fun _ => 0))), (q_6, .inl (cJ, 6, .inr (.inl (fun _ => 0)))), (q_8, .inl (cZ, 6, .inl (fun _ => 0))), (q_10, .inl (cZ, 40, .inl (fun _ => 0))), (q_12, .inl (cI, 40, .inl (fun _ => 0))), (q_14, .inl (cI, 40, .inl (fun _ => 0))), (q_16, .inl (cI, 40, .inl (fun _ => 0)))] H_17 := hP1
  replace hD : va_D A [(fh, .inr (0, [.int 0, .ref q_2, .ref q_4, .ref q_6, .ref q_8, .ref q_10, .ref q_12, .ref q_14, .ref q_16, .null, .null])), (q_2, .inl (cI, 6, .inl (fun _ => 0))), (q_4, .inl (cI, 6, .inl (fun _ => 0))), (q_6, .inl (cJ, 6, .inr (.inl (fun _ => 0)))), (q_8, .inl (cZ, 6, .inl (fun _ => 0))), (q_10, .inl (cZ, 40, .inl (fun _ => 0))), (q_12, .inl (cI, 40, .inl (fun _ => 0))), (q_14, .inl (cI, 40, .inl (fun _ => 0))), (q_16, .inl (cI, 40, .inl (fun _ => 0)))] := hD1
  replace hS := hS1
  clear hP1 hD1 hS1
  refine lv_aload_n hx hb dX0_init_73 rfl (lv_at hl 0 rfl) ?_
  refine lv_sipush (v := 480) hx hb dX0_init_74 (by decide) ?_
  refine my_newaI hx hb (hts (.arrayClass .int) (List.mem_of_getElem? (i := 5) rfl)) hK hP hD hS hA (N' := 480) (by decide) (by decide) (by decide) (Nat.le_of_ble_eq_true rfl) (Nat.le_of_ble_eq_true rfl) dX0_init_77 (fun q_18 H_18 hP1 hD1 hS1 => ?_)
  replace hP : va_P (dC, dI) vwCl [(fh, .inr (0, [.int 0, .ref q_2, .ref q_4, .ref q_6, .ref q_8, .ref q_10, .ref q_12, .ref q_14, .ref q_16, .null, .null])), (q_2, .inl (cI, 6, .inl (fun _ => 0))), (q_4, .inl (cI, 6, .inl (fun _ => 0))), (q_6, .inl (cJ, 6, .inr (.inl (fun _ => 0)))), (q_8, .inl (cZ, 6, .inl (fun _ => 0))), (q_10, .inl (cZ, 40, .inl (fun _ => 0))), (q_12, .inl (cI, 40, .inl (fun _ => 0))), (q_14, .inl (cI, 40, .inl (fun _ => 0))), (q_16, .inl (cI, 40, .inl (fun _ => 0))), (q_18, .inl (cI, 480, .inl (fun _ => 0)))] H_18 := hP1
  replace hD : va_D A [(fh, .inr (0, [.int 0, .ref q_2, .ref q_4, .ref q_6, .ref q_8, .ref q_10, .ref q_12, .ref q_14, .ref q_16, .null, .null])), (q_2, .inl (cI, 6, .inl (fun _ => 0))), (q_4, .inl (cI, 6, .inl (fun _ => 0))), (q_6, .inl (cJ, 6, .inr (.inl (fun _ => 0)))), (q_8, .inl (cZ, 6, .inl (fun _ => 0))), (q_10, .inl (cZ, 40, .inl (fun _ => 0))), (q_12, .inl (cI, 40, .inl (fun _ => 0))), (q_14, .inl (cI, 40, .inl (fun _ => 0))), (q_16, .inl (cI, 40, .inl (fun _ => 0))), (q_18, .inl (cI, 480, .inl (fun _ => 0)))] := hD1
  replace hS := hS1
  clear hP1 hD1 hS1
  refine W.widen (k := 9) (n := 664) (Nat.le_of_ble_eq_true rfl) (Nat.le_of_ble_eq_true rfl) ?_
  refine va_putF (D := (dC, dI)) (ci := 0) (v := .ref q_18) (ty := .array .int) (C := RX0) (T := TX0) (N := 11) hx hb hts inc_X0_init_X0 tyX0 tyX0_ok nmX0 hown hK hP hD hS 0 rfl rfl 9 (by decide) (hts (.fieldLink RX0 42 "ArraySegments$Facts" "leastAt" "[I") (List.mem_of_getElem? (i := 16) rfl)) (fun _ h9 => h9) rfl hin rfl (by decide +kernel) rfl rfl (Nat.le_of_ble_eq_true rfl) dX0_init_79 (fun H_19 locs_19 hP1 hD1 hS1 => ?_)
  replace hP : va_P (dC, dI) vwCl [(fh, .inr (0, [.int 0, .ref q_2, .ref q_4, .ref q_6, .ref q_8, .ref q_10, .ref q_12, .ref q_14, .ref q_16, .ref q_18, .null])), (q_2, .inl (cI, 6, .inl (fun _ => 0))), (q_4, .inl (cI, 6, .inl (fun _ => 0))), (q_6, .inl (cJ, 6, .inr (.inl (fun _ => 0)))), (q_8, .inl (cZ, 6, .inl (fun _ => 0))), (q_10, .inl (cZ, 40, .inl (fun _ => 0))), (q_12, .inl (cI, 40, .inl (fun _ => 0))), (q_14, .inl (cI, 40, .inl (fun _ => 0))), (q_16, .inl (cI, 40, .inl (fun _ => 0))), (q_18, .inl (cI, 480, .inl (fun _ => 0)))] H_19 := hP1
  replace hD : va_D A [(fh, .inr (0, [.int 0, .ref q_2, .ref q_4, .ref q_6, .ref q_8, .ref q_10, .ref q_12, .ref q_14, .ref q_16, .ref q_18, .null])), (q_2, .inl (cI, 6, .inl (fun _ => 0))), (q_4, .inl (cI, 6, .inl (fun _ => 0))), (q_6, .inl (cJ, 6, .inr (.inl (fun _ => 0)))), (q_8, .inl (cZ, 6, .inl (fun _ => 0))), (q_10, .inl (cZ, 40, .inl (fun _ => 0))), (q_12, .inl (cI, 40, .inl (fun _ => 0))), (q_14, .inl (cI, 40, .inl (fun _ => 0))), (q_16, .inl (cI, 40, .inl (fun _ => 0))), (q_18, .inl (cI, 480, .inl (fun _ => 0)))] := hD1
  replace hS := hS1
  clear hP1 hD1 hS1
  refine lv_aload_n hx hb dX0_init_82 rfl (lv_at hl 0 rfl) ?_
  refine lv_sipush (v := 480) hx hb dX0_init_83 (by decide) ?_
  refine my_newaI hx hb (hts (.arrayClass .int) (List.mem_of_getElem? (i := 5) rfl)) hK hP hD hS hA (N' := 480) (by decide) (by decide) (by decide) (Nat.le_of_ble_eq_true rfl) (Nat.le_of_ble_eq_true rfl) dX0_init_86 (fun q_20 H_20 hP1 hD1 hS1 => ?_)
  replace hP : va_P (dC, dI) vwCl [(fh, .inr (0, [.int 0, .ref q_2, .ref q_4, .ref q_6, .ref q_8, .ref q_10, .ref q_12, .ref q_14, .ref q_16, .ref q_18, .null])), (q_2, .inl (cI, 6, .inl (fun _ => 0))), (q_4, .inl (cI, 6, .inl (fun _ => 0))), (q_6, .inl (cJ, 6, .inr (.inl (fun _ => 0)))), (q_8, .inl (cZ, 6, .inl (fun _ => 0))), (q_10, .inl (cZ, 40, .inl (fun _ => 0))), (q_12, .inl (cI, 40, .inl (fun _ => 0))), (q_14, .inl (cI, 40, .inl (fun _ => 0))), (q_16, .inl (cI, 40, .inl (fun _ => 0))), (q_18, .inl (cI, 480, .inl (fun _ => 0))), (q_20, .inl (cI, 480, .inl (fun _ => 0)))] H_20 := hP1
  replace hD : va_D A [(fh, .inr (0, [.int 0, .ref q_2, .ref q_4, .ref q_6, .ref q_8, .ref q_10, .ref q_12, .ref q_14, .ref q_16, .ref q_18, .null])), (q_2, .inl (cI, 6, .inl (fun _ => 0))), (q_4, .inl (cI, 6, .inl (fun _ => 0))), (q_6, .inl (cJ, 6, .inr (.inl (fun _ => 0)))), (q_8, .inl (cZ, 6, .inl (fun _ => 0))), (q_10, .inl (cZ, 40, .inl (fun _ => 0))), (q_12, .inl (cI, 40, .inl (fun _ => 0))), (q_14, .inl (cI, 40, .inl (fun _ => 0))), (q_16, .inl (cI, 40, .inl (fun _ => 0))), (q_18, .inl (cI, 480, .inl (fun _ => 0))), (q_20, .inl (cI, 480, .inl (fun _ => 0)))] := hD1
  replace hS := hS1
  clear hP1 hD1 hS1
  refine W.widen (k := 10) (n := 1144) (Nat.le_of_ble_eq_true rfl) (Nat.le_of_ble_eq_true rfl) ?_
  refine va_putF (D := (dC, dI)) (ci := 0) (v := .ref q_20) (ty := .array .int) (C := RX0) (T := TX0) (N := 11) hx hb hts inc_X0_init_X0 tyX0 tyX0_ok nmX0 hown hK hP hD hS 0 rfl rfl 10 (by decide) (hts (.fieldLink RX0 45 "ArraySegments$Facts" "greatestAt" "[I") (List.mem_of_getElem? (i := 17) rfl)) (fun _ h9 => h9) rfl hin rfl (by decide +kernel) rfl rfl (Nat.le_of_ble_eq_true rfl) dX0_init_88 (fun H_21 locs_21 hP1 hD1 hS1 => ?_)
  replace hP : va_P (dC, dI) vwCl [(fh, .inr (0, [.int 0, .ref q_2, .ref q_4, .ref q_6, .ref q_8, .ref q_10, .ref q_12, .ref q_14, .ref q_16, .ref q_18, .ref q_20])), (q_2, .inl (cI, 6, .inl (fun _ => 0))), (q_4, .inl (cI, 6, .inl (fun _ => 0))), (q_6, .inl (cJ, 6, .inr (.inl (fun _ => 0)))), (q_8, .inl (cZ, 6, .inl (fun _ => 0))), (q_10, .inl (cZ, 40, .inl (fun _ => 0))), (q_12, .inl (cI, 40, .inl (fun _ => 0))), (q_14, .inl (cI, 40, .inl (fun _ => 0))), (q_16, .inl (cI, 40, .inl (fun _ => 0))), (q_18, .inl (cI, 480, .inl (fun _ => 0))), (q_20, .inl (cI, 480, .inl (fun _ => 0)))] H_21 := hP1
  replace hD : va_D A [(fh, .inr (0, [.int 0, .ref q_2, .ref q_4, .ref q_6, .ref q_8, .ref q_10, .ref q_12, .ref q_14, .ref q_16, .ref q_18, .ref q_20])), (q_2, .inl (cI, 6, .inl (fun _ => 0))), (q_4, .inl (cI, 6, .inl (fun _ => 0))), (q_6, .inl (cJ, 6, .inr (.inl (fun _ => 0)))), (q_8, .inl (cZ, 6, .inl (fun _ => 0))), (q_10, .inl (cZ, 40, .inl (fun _ => 0))), (q_12, .inl (cI, 40, .inl (fun _ => 0))), (q_14, .inl (cI, 40, .inl (fun _ => 0))), (q_16, .inl (cI, 40, .inl (fun _ => 0))), (q_18, .inl (cI, 480, .inl (fun _ => 0))), (q_20, .inl (cI, 480, .inl (fun _ => 0)))] := hD1
  replace hS := hS1
  clear hP1 hD1 hS1
  have hP9 := hP.sub (ws' := [(fh, .inr (0, [.int 0, .ref q_2, .ref q_4, .ref q_6, .ref q_8, .ref q_10, .ref q_12, .ref q_14, .ref q_16, .ref q_18, .ref q_20])), (q_2, .inl (cI, 6, .inl (fun _ => 0))), (q_4, .inl (cI, 6, .inl (fun _ => 0))), (q_6, .inl (cJ, 6, .inr (.inl (fun _ => 0)))), (q_8, .inl (cZ, 6, .inl (fun _ => 0))), (q_10, .inl (cZ, 40, .inl (fun _ => 0))), (q_12, .inl (cI, 40, .inl (fun _ => 0))), (q_14, .inl (cI, 40, .inl (fun _ => 0))), (q_16, .inl (cI, 40, .inl (fun _ => 0))), (q_18, .inl (cI, 480, .inl (fun _ => 0))), (q_20, .inl (cI, 480, .inl (fun _ => 0)))]) [0, 1, 2, 3, 4, 5, 6, 7, 8, 9, 10] rfl
  have hD9 := hD.sub (ws' := [(fh, .inr (0, [.int 0, .ref q_2, .ref q_4, .ref q_6, .ref q_8, .ref q_10, .ref q_12, .ref q_14, .ref q_16, .ref q_18, .ref q_20])), (q_2, .inl (cI, 6, .inl (fun _ => 0))), (q_4, .inl (cI, 6, .inl (fun _ => 0))), (q_6, .inl (cJ, 6, .inr (.inl (fun _ => 0)))), (q_8, .inl (cZ, 6, .inl (fun _ => 0))), (q_10, .inl (cZ, 40, .inl (fun _ => 0))), (q_12, .inl (cI, 40, .inl (fun _ => 0))), (q_14, .inl (cI, 40, .inl (fun _ => 0))), (q_16, .inl (cI, 40, .inl (fun _ => 0))), (q_18, .inl (cI, 480, .inl (fun _ => 0))), (q_20, .inl (cI, 480, .inl (fun _ => 0)))]) [0, 1, 2, 3, 4, 5, 6, 7, 8, 9, 10] (by decide) rfl
  refine W.widen (k := 10) (n := 1144) (Nat.le_of_ble_eq_true rfl) (Nat.le_of_ble_eq_true rfl) ?_
  exact W.vret hx hb hr (fun t ht hW => ⟨⟨(fun k => match k with | 0 => q_2 | 1 => q_4 | 2 => q_6 | 3 => q_8 | 4 => q_10 | 5 => q_12 | 6 => q_14 | 7 => q_16 | 8 => q_18 | 9 => q_20 | _ => 0), rfl, trivial, by rw [ht]; exact hP9, va_K.moved hW.alike hK, hD9⟩, hS.F ht⟩) hS.2.2 dX0_init_91
end
section
def w_X1_follow : List Cond := .code yX1_follow cX1_follow 5 none :: ([.fieldLink RX1 21 "ArraySegments$Flow" "isOld" "Z", .fieldLink RX1 12 "ArraySegments$Flow" "now" "LArraySegments$Facts;", .methodLink RX1 43 yX0_begin, .instanceMethod yX0_begin, .selects RX0 yX0_begin yX0_begin, .initialized RX0, .code yX0_begin cX0_begin 2 none, .fieldLink RX0 9 "ArraySegments$Facts" "isReached" "Z", .fieldLink RX0 30 "ArraySegments$Facts" "known" "[Z", .fieldLink RX0 22 "ArraySegments$Facts" "sites" "[J", .fieldLink RX0 26 "ArraySegments$Facts" "maybeNull" "[Z", .methodLink RX0 48 yX0_setSpan, .instanceMethod yX0_setSpan, .selects RX0 yX0_setSpan yX0_setSpan, .code yX0_setSpan cX0_setSpan 4 none, .fieldLink RX0 15 "ArraySegments$Facts" "least" "[I", .fieldLink RX0 19 "ArraySegments$Facts" "greatest" "[I", .methodLink RX1 46 yX3_hasAct, .instanceMethod yX3_hasAct, .selects RX3 yX3_hasAct yX3_hasAct, .initialized RX3, .code yX3_hasAct cX3_hasAct 2 (some .boolean), .fieldLink RX3 19 "ArraySegments$Program" "count" "I", .fieldLink RX1 25 "ArraySegments$Flow" "isReached" "[Z", .fieldLink RX1 29 "ArraySegments$Flow" "mayThrow" "[I"] ++ wsX10 ++ wsX00 ++ wsX30)
theorem inc_X1_follow_X1 : ∀ w ∈ wsX10, w ∈ w_X1_follow := fun _ h => List.mem_cons_of_mem _ (List.mem_append_left _ (List.mem_append_left _ (List.mem_append_right _ h)))
set_option maxRecDepth 20000 in
theorem g_X1_follow_X0_begin_43 : GoodIn w_X1_follow (wsV RX1 43 RX0 yX0_begin w_X0_begin) := goodIn_r _ [3, 4, 5, 6, 7, 8, 9, 10, 11, 12, 13, 14, 6, 15, 16, 17, 34, 35, 36, 37, 38, 39, 40, 41, 42, 43, 44] (by decide +kernel) (by decide +kernel)
set_option maxRecDepth 20000 in
theorem g_X1_follow_X3_hasAct_46 : GoodIn w_X1_follow (wsV RX1 46 RX3 yX3_hasAct w_X3_hasAct) := goodIn_r _ [18, 19, 20, 21, 22, 23, 45, 46, 47] (by decide +kernel) (by decide +kernel)
abbrev pw_X1_follow (cI cJ cZ : ClassId) (lh : Nat) (l3 : Nat) (l4 : Nat) (lv_ahead : Value) (lv_gatheredAny : Value) (lv_gatheredLeast : Value) (lv_gatheredGreatest : Value) (fh : Nat) (f1 : Nat) (f2 : Nat) (f3 : Nat) (f4 : Nat) (f5 : Nat) (fr : Int32) (fw_lanes : Value) (fw_shortest : Value) (fw_longest : Value) (fw_leastAt : Value) (fw_greatestAt : Value) (fl : Nat → Int32) (fg : Nat → Int32) (fs : Nat → Int64) (fm : Nat → Int32) (fk : Nat → Int32) (lr : Nat → Int32) (lm : Nat → Int32) (ph : Nat) (pv_rows : Value) (pv_dropped : Value) : va_W := [(lh, .inr (1, [.ref fh, lv_ahead, .int 1, .ref l3, .ref l4, lv_gatheredAny, lv_gatheredLeast, lv_gatheredGreatest])), (fh, .inr (0, [.int fr, .ref f1, .ref f2, .ref f3, .ref f4, .ref f5, fw_lanes, fw_shortest, fw_longest, fw_leastAt, fw_greatestAt])), (f1, .inl (cI, 6, .inl fl)), (f2, .inl (cI, 6, .inl fg)), (f3, .inl (cJ, 6, .inr (.inl fs))), (f4, .inl (cZ, 6, .inl fm)), (f5, .inl (cZ, 40, .inl fk)), (l3, .inl (cZ, 40, .inl lr)), (l4, .inl (cI, 40, .inl lm)), (ph, .inr (3, [pv_rows, pv_dropped, .int 0]))]
set_option maxHeartbeats 4000000 in
set_option maxRecDepth 100000 in
theorem c_X1_follow (l : Launch) (dC : Nat → ClassId) (dI : Nat → Nat → Nat) (cI cJ cZ : ClassId) (lh : Nat) (l3 : Nat) (l4 : Nat) (lv_ahead : Value) (lv_gatheredAny : Value) (lv_gatheredLeast : Value) (lv_gatheredGreatest : Value) (fh : Nat) (f1 : Nat) (f2 : Nat) (f3 : Nat) (f4 : Nat) (f5 : Nat) (fr : Int32) (fw_lanes : Value) (fw_shortest : Value) (fw_longest : Value) (fw_leastAt : Value) (fw_greatestAt : Value) (fl : Nat → Int32) (fg : Nat → Int32) (fs : Nat → Int64) (fm : Nat → Int32) (fk : Nat → Int32) (lr : Nat → Int32) (lm : Nat → Int32) (ph : Nat) (pv_rows : Value) (pv_dropped : Value) (sz : Nat) : Met l yX1_follow w_X1_follow ({ frames := 2, cells := 0, slots := 0, locals := 44 }) (va_Pc [.ref lh, .ref ph] (cPre dC dI cI cJ cZ sz (pw_X1_follow cI cJ cZ lh l3 l4 lv_ahead lv_gatheredAny lv_gatheredLeast lv_gatheredGreatest fh f1 f2 f3 f4 f5 fr fw_lanes fw_shortest fw_longest fw_leastAt fw_greatestAt fl fg fs fm fk lr lm ph pv_rows pv_dropped))) (va_Qv (fun (u : Nat → Nat) => True) (fun (u : Nat → Nat) => cPost dC dI cI cJ cZ (va_A (pw_X1_follow cI cJ cZ lh l3 l4 lv_ahead lv_gatheredAny lv_gatheredLeast lv_gatheredGreatest fh f1 f2 f3 f4 f5 fr fw_lanes fw_shortest fw_longest fw_leastAt fw_greatestAt fl fg fs fm fk lr lm ph pv_rows pv_dropped) sz) [(lh, .inr (1, [.ref fh, lv_ahead, .int 0, .ref l3, .ref l4, lv_gatheredAny, lv_gatheredLeast, lv_gatheredGreatest])), (fh, .inr (0, [.int 1, .ref f1, .ref f2, .ref f3, .ref f4, .ref f5, fw_lanes, fw_shortest, fw_longest, fw_leastAt, fw_greatestAt])), (f1, .inl (cI, 6, .inl (ov fl 6 0))), (f2, .inl (cI, 6, .inl (ov fg 6 0))), (f3, .inl (cJ, 6, .inr (.inl (ovL fs 6 0)))), (f4, .inl (cZ, 6, .inl (ov fm 6 1))), (f5, .inl (cZ, 40, .inl (ov fk 40 0))), (l3, .inl (cZ, 40, .inl (ov lr 40 0))), (l4, .inl (cI, 40, .inl (ov lm 40 0))), (ph, .inr (3, [pv_rows, pv_dropped, .int 0]))]) (va_A (pw_X1_follow cI cJ cZ lh l3 l4 lv_ahead lv_gatheredAny lv_gatheredLeast lv_gatheredGreatest fh f1 f2 f3 f4 f5 fr fw_lanes fw_shortest fw_longest fw_leastAt fw_greatestAt fl fg fs fm fk lr lm ph pv_rows pv_dropped) sz)) 0 0 (va_A (pw_X1_follow cI cJ cZ lh l3 l4 lv_ahead lv_gatheredAny lv_gatheredLeast lv_gatheredGreatest fh f1 f2 f3 f4 f5 fr fw_lanes fw_shortest fw_longest fw_leastAt fw_greatestAt fl fg fs fm fk lr lm ph pv_rows pv_dropped) sz) := by
  refine Met.ofW (cc := cX1_follow) (maxL := 5) (ret := none) (by decide) rfl ?_
  intro p e s m args below meth c s₁ B hml hv
  obtain ⟨rfl, hsz, hP, hK, hD0, hN⟩ := hv
  have hx := B.exec
  have hb := B.bytes
  have hr := B.returns
  have hts := atoms_spec (ws := w_X1_follow) B.pre
  have hown : s.vm.findClass RX1 = some m.cls := findClass_of_methodNamed B.named
  have hlocks := B.notSynchronized
  subst hsz
  have hD := hD0.self (sz := s.heap.size)
  generalize hAe : va_A (pw_X1_follow cI cJ cZ lh l3 l4 lv_ahead lv_gatheredAny lv_gatheredLeast lv_gatheredGreatest fh f1 f2 f3 f4 f5 fr fw_lanes fw_shortest fw_longest fw_leastAt fw_greatestAt fl fg fs fm fk lr lm ph pv_rows pv_dropped) s.heap.size = A at hD ⊢
  have hA : ∀ q : Nat, s.heap.size ≤ q → A q := fun q h => by rw [← hAe]; exact Or.inr h
  clear hAe hD0
  have hS : va_S A s.heap s.heap [] := va_S.rf
  replace hP : va_P (dC, dI) vwCl [(lh, .inr (1, [.ref fh, lv_ahead, .int 1, .ref l3, .ref l4, lv_gatheredAny, lv_gatheredLeast, lv_gatheredGreatest])), (fh, .inr (0, [.int fr, .ref f1, .ref f2, .ref f3, .ref f4, .ref f5, fw_lanes, fw_shortest, fw_longest, fw_leastAt, fw_greatestAt])), (f1, .inl (cI, 6, .inl fl)), (f2, .inl (cI, 6, .inl fg)), (f3, .inl (cJ, 6, .inr (.inl fs))), (f4, .inl (cZ, 6, .inl fm)), (f5, .inl (cZ, 40, .inl fk)), (l3, .inl (cZ, 40, .inl lr)), (l4, .inl (cI, 40, .inl lm)), (ph, .inr (3, [pv_rows, pv_dropped, .int 0]))] s.heap := hP
  replace hD : va_D A [(lh, .inr (1, [.ref fh, lv_ahead, .int 1, .ref l3, .ref l4, lv_gatheredAny, lv_gatheredLeast, lv_gatheredGreatest])), (fh, .inr (0, [.int fr, .ref f1, .ref f2, .ref f3, .ref f4, .ref f5, fw_lanes, fw_shortest, fw_longest, fw_leastAt, fw_greatestAt])), (f1, .inl (cI, 6, .inl fl)), (f2, .inl (cI, 6, .inl fg)), (f3, .inl (cJ, 6, .inr (.inl fs))), (f4, .inl (cZ, 6, .inl fm)), (f5, .inl (cZ, 40, .inl fk)), (l3, .inl (cZ, 40, .inl lr)), (l4, .inl (cI, 40, .inl lm)), (ph, .inr (3, [pv_rows, pv_dropped, .int 0]))] := hD
  have hl := lv_entry ([.ref lh, .ref ph]) (n := 5) (Nat.le_of_ble_eq_true rfl)
  rw [lg_entry_eq]
  generalize (lg_sl ([.ref lh, .ref ph]) ++ List.replicate (5 - (lg_sl ([.ref lh, .ref ph])).length) Slot.unset).toArray = ls at hl ⊢
  replace hl : lv_has ls 5 [(0, .ref lh), (1, .ref ph)] := hl
  refine lv_aload_n hx hb dX1_follow_0 rfl (lv_at hl 0 rfl) ?_
  refine va_get (D := (dC, dI)) (ci := 1) (v := .int 1) (C := RX1) (T := TX1) (N := 8) hx hb hts inc_X1_follow_X1 hown hK hP 0 rfl rfl 2 (by decide) (hts (.fieldLink RX1 21 "ArraySegments$Flow" "isOld" "Z") (List.mem_of_getElem? (i := 1) rfl)) (fun _ h9 => h9) rfl dX1_follow_1 ?_
  refine lv_if_ne (tgt := 8) hx hb dX1_follow_4 (by decide) (fun c_1 => ?_) (fun c_1 => ?_)
  · -- on
    refine lv_aload_n hx hb dX1_follow_8 rfl (lv_at hl 0 rfl) ?_
    refine lv_iconst (v := 0) hx hb dX1_follow_9 (by decide) ?_
    refine va_put (D := (dC, dI)) (ci := 1) (v := .int 0) (ty := .boolean) (C := RX1) (T := TX1) (N := 8) hx hb hts inc_X1_follow_X1 tyX1 tyX1_ok nmX1 hown hK hP hD hS 0 rfl rfl 2 (by decide) (hts (.fieldLink RX1 21 "ArraySegments$Flow" "isOld" "Z") (List.mem_of_getElem? (i := 1) rfl)) (fun _ h9 => h9) rfl (by decide +kernel) rfl rfl (Nat.le_of_ble_eq_true rfl) dX1_follow_10 (fun H_2 locs_2 hP1 hD1 hS1 => ?_)
    replace hP : va_P (dC, dI) vwCl [(lh, .inr (1, [.ref fh, lv_ahead, .int 0, .ref l3, .ref l4, lv_gatheredAny, lv_gatheredLeast, lv_gatheredGreatest])), (fh, .inr (0, [.int fr, .ref f1, .ref f2, .ref f3, .ref f4, .ref f5, fw_lanes, fw_shortest, fw_longest, fw_leastAt, fw_greatestAt])), (f1, .inl (cI, 6, .inl fl)), (f2, .inl (cI, 6, .inl fg)), (f3, .inl (cJ, 6, .inr (.inl fs))), (f4, .inl (cZ, 6, .inl fm)), (f5, .inl (cZ, 40, .inl fk)), (l3, .inl (cZ, 40, .inl lr)), (l4, .inl (cI, 40, .inl lm)), (ph, .inr (3, [pv_rows, pv_dropped, .int 0]))] H_2 := hP1
    replace hD : va_D A [(lh, .inr (1, [.ref fh, lv_ahead, .int 0, .ref l3, .ref l4, lv_gatheredAny, lv_gatheredLeast, lv_gatheredGreatest])), (fh, .inr (0, [.int fr, .ref f1, .ref f2, .ref f3, .ref f4, .ref f5, fw_lanes, fw_shortest, fw_longest, fw_leastAt, fw_greatestAt])), (f1, .inl (cI, 6, .inl fl)), (f2, .inl (cI, 6, .inl fg)), (f3, .inl (cJ, 6, .inr (.inl fs))), (f4, .inl (cZ, 6, .inl fm)), (f5, .inl (cZ, 40, .inl fk)), (l3, .inl (cZ, 40, .inl lr)), (l4, .inl (cI, 40, .inl lm)), (ph, .inr (3, [pv_rows, pv_dropped, .int 0]))] := hD1
    replace hS := hS1
    clear hP1 hD1 hS1
    refine lv_aload_n hx hb dX1_follow_13 rfl (lv_at hl 0 rfl) ?_
    refine va_get (D := (dC, dI)) (ci := 1) (v := .ref fh) (C := RX1) (T := TX1) (N := 8) hx hb hts inc_X1_follow_X1 hown hK hP 0 rfl rfl 0 (by decide) (hts (.fieldLink RX1 12 "ArraySegments$Flow" "now" "LArraySegments$Facts;") (List.mem_of_getElem? (i := 2) rfl)) (fun _ h9 => h9) rfl dX1_follow_14 ?_
    have hPc := hP.sub (ws' := [(fh, .inr (0, [.int fr, .ref f1, .ref f2, .ref f3, .ref f4, .ref f5, fw_lanes, fw_shortest, fw_longest, fw_leastAt, fw_greatestAt])), (f1, .inl (cI, 6, .inl fl)), (f2, .inl (cI, 6, .inl fg)), (f3, .inl (cJ, 6, .inr (.inl fs))), (f4, .inl (cZ, 6, .inl fm)), (f5, .inl (cZ, 40, .inl fk))]) [1, 2, 3, 4, 5, 6] rfl
    have hDc := hD.sub (ws' := [(fh, .inr (0, [.int fr, .ref f1, .ref f2, .ref f3, .ref f4, .ref f5, fw_lanes, fw_shortest, fw_longest, fw_leastAt, fw_greatestAt])), (f1, .inl (cI, 6, .inl fl)), (f2, .inl (cI, 6, .inl fg)), (f3, .inl (cJ, 6, .inr (.inl fs))), (f4, .inl (cZ, 6, .inl fm)), (f5, .inl (cZ, 40, .inl fk))]) [1, 2, 3, 4, 5, 6] (by decide) rfl
    have hFc := va_free (wc := [(fh, .inr (0, [.int fr, .ref f1, .ref f2, .ref f3, .ref f4, .ref f5, fw_lanes, fw_shortest, fw_longest, fw_leastAt, fw_greatestAt])), (f1, .inl (cI, 6, .inl fl)), (f2, .inl (cI, 6, .inl fg)), (f3, .inl (cJ, 6, .inr (.inl fs))), (f4, .inl (cZ, 6, .inl fm)), (f5, .inl (cZ, 40, .inl fk))]) hD hS hA [1, 2, 3, 4, 5, 6] rfl
    refine va_callv (va_runV (As := []) (rest := []) ⟨hx, hb, hml, hown, hts⟩ (c_X0_begin l dC dI cI cJ cZ fh f1 f2 f3 f4 f5 fr fw_lanes fw_shortest fw_longest fw_leastAt fw_greatestAt fl fg fs fm fk H_2.size) (cwV 0 hts g_X1_follow_X0_begin_43 rfl rfl rfl (by decide +kernel) ⟨Nat.le_of_ble_eq_true rfl, Nat.le_of_ble_eq_true rfl⟩) ⟨cPre_blind, va_recv hK hPc (ci := 0) (q0 := 0) rfl rfl, cPre_of hK hN hPc hDc⟩ rfl rfl hl.1 rfl (lv_room (Nat.le_of_ble_eq_true rfl)) dX1_follow_17 ⟨Nat.le_of_ble_eq_true rfl, Nat.le_of_ble_eq_true rfl⟩) hS (fun q _ h => hFc q h) hFc (fun u_3 t_3 H_3 locs_3 ht hvm hw_3 hB hz1 hk1 hS1 => ?_)
    obtain ⟨hP1, hK1, hD1⟩ := hB
    rw [ht] at hP1
    obtain ⟨hP2, hD2⟩ := va_join (wr := [(lh, .inr (1, [.ref fh, lv_ahead, .int 0, .ref l3, .ref l4, lv_gatheredAny, lv_gatheredLeast, lv_gatheredGreatest])), (l3, .inl (cZ, 40, .inl lr)), (l4, .inl (cI, 40, .inl lm)), (ph, .inr (3, [pv_rows, pv_dropped, .int 0]))]) (w1 := [(fh, .inr (0, [.int 1, .ref f1, .ref f2, .ref f3, .ref f4, .ref f5, fw_lanes, fw_shortest, fw_longest, fw_leastAt, fw_greatestAt])), (f1, .inl (cI, 6, .inl (ov fl 6 0))), (f2, .inl (cI, 6, .inl (ov fg 6 0))), (f3, .inl (cJ, 6, .inr (.inl (ovL fs 6 0)))), (f4, .inl (cZ, 6, .inl (ov fm 6 1))), (f5, .inl (cZ, 40, .inl (ov fk 40 0)))]) hP hD [1, 2, 3, 4, 5, 6] [0, 7, 8, 9] rfl rfl (by decide) (by decide) hk1 hFc hP1 hD1
    clear hPc hDc hFc hP1 hD1 hK1 hk1 hz1 hvm ht
    replace hP : va_P (dC, dI) vwCl [(lh, .inr (1, [.ref fh, lv_ahead, .int 0, .ref l3, .ref l4, lv_gatheredAny, lv_gatheredLeast, lv_gatheredGreatest])), (l3, .inl (cZ, 40, .inl lr)), (l4, .inl (cI, 40, .inl lm)), (ph, .inr (3, [pv_rows, pv_dropped, .int 0])), (fh, .inr (0, [.int 1, .ref f1, .ref f2, .ref f3, .ref f4, .ref f5, fw_lanes, fw_shortest, fw_longest, fw_leastAt, fw_greatestAt])), (f1, .inl (cI, 6, .inl (ov fl 6 0))), (f2, .inl (cI, 6, .inl (ov fg 6 0))), (f3, .inl (cJ, 6, .inr (.inl (ovL fs 6 0)))), (f4, .inl (cZ, 6, .inl (ov fm 6 1))), (f5, .inl (cZ, 40, .inl (ov fk 40 0)))] H_3 := hP2
    replace hD : va_D A [(lh, .inr (1, [.ref fh, lv_ahead, .int 0, .ref l3, .ref l4, lv_gatheredAny, lv_gatheredLeast, lv_gatheredGreatest])), (l3, .inl (cZ, 40, .inl lr)), (l4, .inl (cI, 40, .inl lm)), (ph, .inr (3, [pv_rows, pv_dropped, .int 0])), (fh, .inr (0, [.int 1, .ref f1, .ref f2, .ref f3, .ref f4, .ref f5, fw_lanes, fw_shortest, fw_longest, fw_leastAt, fw_greatestAt])), (f1, .inl (cI, 6, .inl (ov fl 6 0))), (f2, .inl (cI, 6, .inl (ov fg 6 0))), (f3, .inl (cJ, 6, .inr (.inl (ovL fs 6 0)))), (f4, .inl (cZ, 6, .inl (ov fm 6 1))), (f5, .inl (cZ, 40, .inl (ov fk 40 0)))] := hD2
    replace hS := hS1
    clear hP2 hD2 hS1
    refine lv_iconst (v := 0) hx hb dX1_follow_20 (by decide) ?_
    refine lv_istore_n (lv' := [(2, .int 0), (0, .ref lh), (1, .ref ph)]) hx hb dX1_follow_21 rfl hl (by decide) rfl (fun ls1 hl1 => ?_)
    replace hl := hl1; clear hl1
    refine lv_iconst (v := 0) hx hb dX1_follow_22 (by decide) ?_
    refine lv_istore_n (lv' := [(3, .int 0), (2, .int 0), (0, .ref lh), (1, .ref ph)]) hx hb dX1_follow_23 rfl hl (by decide) rfl (fun ls1 hl1 => ?_)
    replace hl := hl1; clear hl1
    refine my_loop 40 (fun i => [(lh, .inr (1, [.ref fh, lv_ahead, .int 0, .ref l3, .ref l4, lv_gatheredAny, lv_gatheredLeast, lv_gatheredGreatest])), (l3, .inl (cZ, 40, .inl (ov lr i 0))), (l4, .inl (cI, 40, .inl (ov lm i 0))), (ph, .inr (3, [pv_rows, pv_dropped, .int 0])), (fh, .inr (0, [.int 1, .ref f1, .ref f2, .ref f3, .ref f4, .ref f5, fw_lanes, fw_shortest, fw_longest, fw_leastAt, fw_greatestAt])), (f1, .inl (cI, 6, .inl (ov fl 6 0))), (f2, .inl (cI, 6, .inl (ov fg 6 0))), (f3, .inl (cJ, 6, .inr (.inl (ovL fs 6 0)))), (f4, .inl (cZ, 6, .inl (ov fm 6 1))), (f5, .inl (cZ, 40, .inl (ov fk 40 0)))]) (fun i => [(3, .int (nI i)), (2, .int 0), (0, .ref lh), (1, .ref ph)]) (H0 := s.heap) (A := A) (D := (dC, dI)) (cl := vwCl) (by first | (simp only [ov_0, ovL_0]; exact hP) | exact hP) (by first | (simp only [ov_0, ovL_0]; exact hD) | exact hD) hS (by exact hl) (fun H_24 locs_24 ls1 hP1 hD1 hS1 hl1 => ?_) (fun i24 hlt_i24 ih_24 H_24 locs_24 ls1 hP1 hD1 hS1 hl1 => ?_)
    · -- behind
      replace hP : va_P (dC, dI) vwCl [(lh, .inr (1, [.ref fh, lv_ahead, .int 0, .ref l3, .ref l4, lv_gatheredAny, lv_gatheredLeast, lv_gatheredGreatest])), (l3, .inl (cZ, 40, .inl (ov lr 40 0))), (l4, .inl (cI, 40, .inl (ov lm 40 0))), (ph, .inr (3, [pv_rows, pv_dropped, .int 0])), (fh, .inr (0, [.int 1, .ref f1, .ref f2, .ref f3, .ref f4, .ref f5, fw_lanes, fw_shortest, fw_longest, fw_leastAt, fw_greatestAt])), (f1, .inl (cI, 6, .inl (ov fl 6 0))), (f2, .inl (cI, 6, .inl (ov fg 6 0))), (f3, .inl (cJ, 6, .inr (.inl (ovL fs 6 0)))), (f4, .inl (cZ, 6, .inl (ov fm 6 1))), (f5, .inl (cZ, 40, .inl (ov fk 40 0)))] H_24 := hP1
      replace hD : va_D A [(lh, .inr (1, [.ref fh, lv_ahead, .int 0, .ref l3, .ref l4, lv_gatheredAny, lv_gatheredLeast, lv_gatheredGreatest])), (l3, .inl (cZ, 40, .inl (ov lr 40 0))), (l4, .inl (cI, 40, .inl (ov lm 40 0))), (ph, .inr (3, [pv_rows, pv_dropped, .int 0])), (fh, .inr (0, [.int 1, .ref f1, .ref f2, .ref f3, .ref f4, .ref f5, fw_lanes, fw_shortest, fw_longest, fw_leastAt, fw_greatestAt])), (f1, .inl (cI, 6, .inl (ov fl 6 0))), (f2, .inl (cI, 6, .inl (ov fg 6 0))), (f3, .inl (cJ, 6, .inr (.inl (ovL fs 6 0)))), (f4, .inl (cZ, 6, .inl (ov fm 6 1))), (f5, .inl (cZ, 40, .inl (ov fk 40 0)))] := hD1
      replace hS := hS1
      clear hP1 hD1 hS1
      replace hl : lv_has ls1 5 [(3, .int (nI 40)), (2, .int 0), (0, .ref lh), (1, .ref ph)] := hl1
      clear hl1
      refine lv_iload_n hx hb dX1_follow_24 rfl (lv_at hl 0 rfl) ?_
      refine lv_bipush (v := 40) hx hb dX1_follow_25 (by decide) ?_
      refine lv_icmp_ge (tgt := 179) hx hb dX1_follow_27 (by decide) (fun c_4 => ?_) (fun c_4 => ?_)
      · -- on
        refine lv_iload_n hx hb dX1_follow_179 rfl (lv_at hl 1 rfl) ?_
        refine lv_if_le (tgt := 194) hx hb dX1_follow_180 (by decide) (fun c_5 => ?_) (fun c_5 => ?_)
        · -- on
          have hP9 := hP.sub (ws' := [(lh, .inr (1, [.ref fh, lv_ahead, .int 0, .ref l3, .ref l4, lv_gatheredAny, lv_gatheredLeast, lv_gatheredGreatest])), (fh, .inr (0, [.int 1, .ref f1, .ref f2, .ref f3, .ref f4, .ref f5, fw_lanes, fw_shortest, fw_longest, fw_leastAt, fw_greatestAt])), (f1, .inl (cI, 6, .inl (ov fl 6 0))), (f2, .inl (cI, 6, .inl (ov fg 6 0))), (f3, .inl (cJ, 6, .inr (.inl (ovL fs 6 0)))), (f4, .inl (cZ, 6, .inl (ov fm 6 1))), (f5, .inl (cZ, 40, .inl (ov fk 40 0))), (l3, .inl (cZ, 40, .inl (ov lr 40 0))), (l4, .inl (cI, 40, .inl (ov lm 40 0))), (ph, .inr (3, [pv_rows, pv_dropped, .int 0]))]) [0, 4, 5, 6, 7, 8, 9, 1, 2, 3] rfl
          have hD9 := hD.sub (ws' := [(lh, .inr (1, [.ref fh, lv_ahead, .int 0, .ref l3, .ref l4, lv_gatheredAny, lv_gatheredLeast, lv_gatheredGreatest])), (fh, .inr (0, [.int 1, .ref f1, .ref f2, .ref f3, .ref f4, .ref f5, fw_lanes, fw_shortest, fw_longest, fw_leastAt, fw_greatestAt])), (f1, .inl (cI, 6, .inl (ov fl 6 0))), (f2, .inl (cI, 6, .inl (ov fg 6 0))), (f3, .inl (cJ, 6, .inr (.inl (ovL fs 6 0)))), (f4, .inl (cZ, 6, .inl (ov fm 6 1))), (f5, .inl (cZ, 40, .inl (ov fk 40 0))), (l3, .inl (cZ, 40, .inl (ov lr 40 0))), (l4, .inl (cI, 40, .inl (ov lm 40 0))), (ph, .inr (3, [pv_rows, pv_dropped, .int 0]))]) [0, 4, 5, 6, 7, 8, 9, 1, 2, 3] (by decide) rfl
          exact W.vret hx hb hr (fun t ht hW => ⟨⟨(fun _ => 0), rfl, trivial, by rw [ht]; exact hP9, va_K.moved hW.alike hK, hD9⟩, hS.F ht⟩) hS.2.2 dX1_follow_194
        · exact absurd (by decide) c_5
      · exact absurd (by decide) c_4
    · -- once
      replace hP : va_P (dC, dI) vwCl [(lh, .inr (1, [.ref fh, lv_ahead, .int 0, .ref l3, .ref l4, lv_gatheredAny, lv_gatheredLeast, lv_gatheredGreatest])), (l3, .inl (cZ, 40, .inl (ov lr i24 0))), (l4, .inl (cI, 40, .inl (ov lm i24 0))), (ph, .inr (3, [pv_rows, pv_dropped, .int 0])), (fh, .inr (0, [.int 1, .ref f1, .ref f2, .ref f3, .ref f4, .ref f5, fw_lanes, fw_shortest, fw_longest, fw_leastAt, fw_greatestAt])), (f1, .inl (cI, 6, .inl (ov fl 6 0))), (f2, .inl (cI, 6, .inl (ov fg 6 0))), (f3, .inl (cJ, 6, .inr (.inl (ovL fs 6 0)))), (f4, .inl (cZ, 6, .inl (ov fm 6 1))), (f5, .inl (cZ, 40, .inl (ov fk 40 0)))] H_24 := hP1
      replace hD : va_D A [(lh, .inr (1, [.ref fh, lv_ahead, .int 0, .ref l3, .ref l4, lv_gatheredAny, lv_gatheredLeast, lv_gatheredGreatest])), (l3, .inl (cZ, 40, .inl (ov lr i24 0))), (l4, .inl (cI, 40, .inl (ov lm i24 0))), (ph, .inr (3, [pv_rows, pv_dropped, .int 0])), (fh, .inr (0, [.int 1, .ref f1, .ref f2, .ref f3, .ref f4, .ref f5, fw_lanes, fw_shortest, fw_longest, fw_leastAt, fw_greatestAt])), (f1, .inl (cI, 6, .inl (ov fl 6 0))), (f2, .inl (cI, 6, .inl (ov fg 6 0))), (f3, .inl (cJ, 6, .inr (.inl (ovL fs 6 0)))), (f4, .inl (cZ, 6, .inl (ov fm 6 1))), (f5, .inl (cZ, 40, .inl (ov fk 40 0)))] := hD1
      replace hS := hS1
      clear hP1 hD1 hS1
      replace hl : lv_has ls1 5 [(3, .int (nI i24)), (2, .int 0), (0, .ref lh), (1, .ref ph)] := hl1
      clear hl1
      refine lv_iload_n hx hb dX1_follow_24 rfl (lv_at hl 0 rfl) ?_
      refine lv_bipush (v := 40) hx hb dX1_follow_25 (by decide) ?_
      refine lv_icmp_ge (tgt := 179) hx hb dX1_follow_27 (by decide) (fun c_6 => ?_) (fun c_6 => ?_)
      · exact absurd c_6 (nI_ge hlt_i24 (by decide))
      · -- on
        refine lv_aload_n hx hb dX1_follow_30 rfl (lv_at hl 3 rfl) ?_
        refine lv_iload_n hx hb dX1_follow_31 rfl (lv_at hl 0 rfl) ?_
        have hPc := hP.sub (ws' := [(ph, .inr (3, [pv_rows, pv_dropped, .int 0]))]) [3] rfl
        have hDc := hD.sub (ws' := [(ph, .inr (3, [pv_rows, pv_dropped, .int 0]))]) [3] (by decide) rfl
        have hFc := va_free (wc := [(ph, .inr (3, [pv_rows, pv_dropped, .int 0]))]) hD hS hA [3] rfl
        refine va_calli (va_runV (As := [.int (nI i24)]) (rest := []) ⟨hx, hb, hml, hown, hts⟩ (c_X3_hasAct l dC dI cI cJ cZ ph pv_rows pv_dropped (nI i24) H_24.size) (cwV 1 hts g_X1_follow_X3_hasAct_46 rfl rfl rfl (by decide +kernel) ⟨Nat.le_of_ble_eq_true rfl, Nat.le_of_ble_eq_true rfl⟩) ⟨cPre_blind, va_recv hK hPc (ci := 3) (q0 := 0) rfl rfl, cPre_of hK hN hPc hDc⟩ rfl rfl hl.1 rfl (lv_room (Nat.le_of_ble_eq_true rfl)) dX1_follow_32 ⟨Nat.le_of_ble_eq_true rfl, Nat.le_of_ble_eq_true rfl⟩) hS (fun q _ h => hFc q h) hFc (fun r_7 u_7 t_7 H_7 locs_7 ht hvm hw_7 hB hz1 hk1 hS1 => ?_)
        obtain ⟨hP1, hK1, hD1⟩ := hB
        rw [ht] at hP1
        obtain ⟨hP2, hD2⟩ := va_join (wr := [(lh, .inr (1, [.ref fh, lv_ahead, .int 0, .ref l3, .ref l4, lv_gatheredAny, lv_gatheredLeast, lv_gatheredGreatest])), (l3, .inl (cZ, 40, .inl (ov lr i24 0))), (l4, .inl (cI, 40, .inl (ov lm i24 0))), (fh, .inr (0, [.int 1, .ref f1, .ref f2, .ref f3, .ref f4, .ref f5, fw_lanes, fw_shortest, fw_longest, fw_leastAt, fw_greatestAt])), (f1, .inl (cI, 6, .inl (ov fl 6 0))), (f2, .inl (cI, 6, .inl (ov fg 6 0))), (f3, .inl (cJ, 6, .inr (.inl (ovL fs 6 0)))), (f4, .inl (cZ, 6, .inl (ov fm 6 1))), (f5, .inl (cZ, 40, .inl (ov fk 40 0)))]) (w1 := [(ph, .inr (3, [pv_rows, pv_dropped, .int 0]))]) hP hD [3] [0, 1, 2, 4, 5, 6, 7, 8, 9] rfl rfl (by decide) (by decide) hk1 hFc hP1 hD1
        clear hPc hDc hFc hP1 hD1 hK1 hk1 hz1 hvm ht
        replace hP : va_P (dC, dI) vwCl [(lh, .inr (1, [.ref fh, lv_ahead, .int 0, .ref l3, .ref l4, lv_gatheredAny, lv_gatheredLeast, lv_gatheredGreatest])), (l3, .inl (cZ, 40, .inl (ov lr i24 0))), (l4, .inl (cI, 40, .inl (ov lm i24 0))), (fh, .inr (0, [.int 1, .ref f1, .ref f2, .ref f3, .ref f4, .ref f5, fw_lanes, fw_shortest, fw_longest, fw_leastAt, fw_greatestAt])), (f1, .inl (cI, 6, .inl (ov fl 6 0))), (f2, .inl (cI, 6, .inl (ov fg 6 0))), (f3, .inl (cJ, 6, .inr (.inl (ovL fs 6 0)))), (f4, .inl (cZ, 6, .inl (ov fm 6 1))), (f5, .inl (cZ, 40, .inl (ov fk 40 0))), (ph, .inr (3, [pv_rows, pv_dropped, .int 0]))] H_7 := hP2
        replace hD : va_D A [(lh, .inr (1, [.ref fh, lv_ahead, .int 0, .ref l3, .ref l4, lv_gatheredAny, lv_gatheredLeast, lv_gatheredGreatest])), (l3, .inl (cZ, 40, .inl (ov lr i24 0))), (l4, .inl (cI, 40, .inl (ov lm i24 0))), (fh, .inr (0, [.int 1, .ref f1, .ref f2, .ref f3, .ref f4, .ref f5, fw_lanes, fw_shortest, fw_longest, fw_leastAt, fw_greatestAt])), (f1, .inl (cI, 6, .inl (ov fl 6 0))), (f2, .inl (cI, 6, .inl (ov fg 6 0))), (f3, .inl (cJ, 6, .inr (.inl (ovL fs 6 0)))), (f4, .inl (cZ, 6, .inl (ov fm 6 1))), (f5, .inl (cZ, 40, .inl (ov fk 40 0))), (ph, .inr (3, [pv_rows, pv_dropped, .int 0]))] := hD2
        replace hS := hS1
        clear hP2 hD2 hS1
        refine my_topi (y := 0) hw_7 ?_
        refine lv_if_eq (tgt := 51) hx hb dX1_follow_35 (by decide) (fun c_8 => ?_) (fun c_8 => ?_)
        · -- on
          refine lv_iconst (v := 0) hx hb dX1_follow_51 (by decide) ?_
          refine lv_istore (lv' := [(4, .int 0), (3, .int (nI i24)), (2, .int 0), (0, .ref lh), (1, .ref ph)]) hx hb dX1_follow_52 hl (by decide) rfl (fun ls1 hl1 => ?_)
          replace hl := hl1; clear hl1
          refine lv_aload_n hx hb dX1_follow_54 rfl (lv_at hl 3 rfl) ?_
          refine va_get (D := (dC, dI)) (ci := 1) (v := .ref l3) (C := RX1) (T := TX1) (N := 8) hx hb hts inc_X1_follow_X1 hown hK hP 0 rfl rfl 3 (by decide) (hts (.fieldLink RX1 25 "ArraySegments$Flow" "isReached" "[Z") (List.mem_of_getElem? (i := 24) rfl)) (fun _ h9 => h9) rfl dX1_follow_55 ?_
          refine lv_iload_n hx hb dX1_follow_58 rfl (lv_at hl 1 rfl) ?_
          refine lv_iload hx hb dX1_follow_59 (lv_at hl 0 rfl) ?_
          refine lv_if_eq (tgt := 78) hx hb dX1_follow_61 (by decide) (fun c_9 => ?_) (fun c_9 => ?_)
          · -- on
            refine lv_iconst (v := 0) hx hb dX1_follow_78 (by decide) ?_
            refine va_zast hx hb hK hP hD hS 1 2 rfl rfl (vp_in_nI (by omega) (by decide)) dX1_follow_79 (fun H_10 locs_10 hP1 hD1 hS1 => ?_)
            rw [show upd (ov lr i24 0) (nI i24 : Int32).toNatClampNeg (vp_nar .boolean 0) = (ov lr (i24 + 1) 0) from ov_stZ lr 0 (by omega) (by decide)] at hP1 hD1
            replace hP : va_P (dC, dI) vwCl [(lh, .inr (1, [.ref fh, lv_ahead, .int 0, .ref l3, .ref l4, lv_gatheredAny, lv_gatheredLeast, lv_gatheredGreatest])), (l3, .inl (cZ, 40, .inl (ov lr (i24 + 1) 0))), (l4, .inl (cI, 40, .inl (ov lm i24 0))), (fh, .inr (0, [.int 1, .ref f1, .ref f2, .ref f3, .ref f4, .ref f5, fw_lanes, fw_shortest, fw_longest, fw_leastAt, fw_greatestAt])), (f1, .inl (cI, 6, .inl (ov fl 6 0))), (f2, .inl (cI, 6, .inl (ov fg 6 0))), (f3, .inl (cJ, 6, .inr (.inl (ovL fs 6 0)))), (f4, .inl (cZ, 6, .inl (ov fm 6 1))), (f5, .inl (cZ, 40, .inl (ov fk 40 0))), (ph, .inr (3, [pv_rows, pv_dropped, .int 0]))] H_10 := hP1
            replace hD : va_D A [(lh, .inr (1, [.ref fh, lv_ahead, .int 0, .ref l3, .ref l4, lv_gatheredAny, lv_gatheredLeast, lv_gatheredGreatest])), (l3, .inl (cZ, 40, .inl (ov lr (i24 + 1) 0))), (l4, .inl (cI, 40, .inl (ov lm i24 0))), (fh, .inr (0, [.int 1, .ref f1, .ref f2, .ref f3, .ref f4, .ref f5, fw_lanes, fw_shortest, fw_longest, fw_leastAt, fw_greatestAt])), (f1, .inl (cI, 6, .inl (ov fl 6 0))), (f2, .inl (cI, 6, .inl (ov fg 6 0))), (f3, .inl (cJ, 6, .inr (.inl (ovL fs 6 0)))), (f4, .inl (cZ, 6, .inl (ov fm 6 1))), (f5, .inl (cZ, 40, .inl (ov fk 40 0))), (ph, .inr (3, [pv_rows, pv_dropped, .int 0]))] := hD1
            replace hS := hS1
            clear hP1 hD1 hS1
            refine lv_aload_n hx hb dX1_follow_80 rfl (lv_at hl 3 rfl) ?_
            refine va_get (D := (dC, dI)) (ci := 1) (v := .ref l4) (C := RX1) (T := TX1) (N := 8) hx hb hts inc_X1_follow_X1 hown hK hP 0 rfl rfl 4 (by decide) (hts (.fieldLink RX1 29 "ArraySegments$Flow" "mayThrow" "[I") (List.mem_of_getElem? (i := 25) rfl)) (fun _ h9 => h9) rfl dX1_follow_81 ?_
            refine lv_iload_n hx hb dX1_follow_84 rfl (lv_at hl 1 rfl) ?_
            refine lv_iconst (v := 0) hx hb dX1_follow_85 (by decide) ?_
            refine va_iast hx hb hK hP hD hS 2 0 rfl rfl (vp_in_nI (by omega) (by decide)) dX1_follow_86 (fun H_11 locs_11 hP1 hD1 hS1 => ?_)
            rw [show upd (ov lm i24 0) (nI i24 : Int32).toNatClampNeg 0 = (ov lm (i24 + 1) 0) from ov_st lm 0 (by omega)] at hP1 hD1
            replace hP : va_P (dC, dI) vwCl [(lh, .inr (1, [.ref fh, lv_ahead, .int 0, .ref l3, .ref l4, lv_gatheredAny, lv_gatheredLeast, lv_gatheredGreatest])), (l3, .inl (cZ, 40, .inl (ov lr (i24 + 1) 0))), (l4, .inl (cI, 40, .inl (ov lm (i24 + 1) 0))), (fh, .inr (0, [.int 1, .ref f1, .ref f2, .ref f3, .ref f4, .ref f5, fw_lanes, fw_shortest, fw_longest, fw_leastAt, fw_greatestAt])), (f1, .inl (cI, 6, .inl (ov fl 6 0))), (f2, .inl (cI, 6, .inl (ov fg 6 0))), (f3, .inl (cJ, 6, .inr (.inl (ovL fs 6 0)))), (f4, .inl (cZ, 6, .inl (ov fm 6 1))), (f5, .inl (cZ, 40, .inl (ov fk 40 0))), (ph, .inr (3, [pv_rows, pv_dropped, .int 0]))] H_11 := hP1
            replace hD : va_D A [(lh, .inr (1, [.ref fh, lv_ahead, .int 0, .ref l3, .ref l4, lv_gatheredAny, lv_gatheredLeast, lv_gatheredGreatest])), (l3, .inl (cZ, 40, .inl (ov lr (i24 + 1) 0))), (l4, .inl (cI, 40, .inl (ov lm (i24 + 1) 0))), (fh, .inr (0, [.int 1, .ref f1, .ref f2, .ref f3, .ref f4, .ref f5, fw_lanes, fw_shortest, fw_longest, fw_leastAt, fw_greatestAt])), (f1, .inl (cI, 6, .inl (ov fl 6 0))), (f2, .inl (cI, 6, .inl (ov fg 6 0))), (f3, .inl (cJ, 6, .inr (.inl (ovL fs 6 0)))), (f4, .inl (cZ, 6, .inl (ov fm 6 1))), (f5, .inl (cZ, 40, .inl (ov fk 40 0))), (ph, .inr (3, [pv_rows, pv_dropped, .int 0]))] := hD1
            replace hS := hS1
            clear hP1 hD1 hS1
            refine lv_iload hx hb dX1_follow_87 (lv_at hl 0 rfl) ?_
            refine lv_if_ne (tgt := 95) hx hb dX1_follow_89 (by decide) (fun c_12 => ?_) (fun c_12 => ?_)
            · exact absurd (by decide) c_12
            · -- on
              refine lv_goto (tgt := 173) hx hb dX1_follow_92 (by decide) ?_
              refine lv_iinc (v := nI (i24 + 1)) (lv' := [(3, .int (nI (i24 + 1))), (4, .int 0), (2, .int 0), (0, .ref lh), (1, .ref ph)]) hx hb dX1_follow_173 hl (k := 1) rfl (by rw [show Int32.ofInt 1 = (1 : Int32) from by decide]; exact nI_1 _) (by decide) rfl (fun ls1 hl1 => ?_)
              replace hl := hl1; clear hl1
              refine lv_goto (tgt := 24) hx hb dX1_follow_176 (by decide) ?_
              exact ih_24 _ _ _ (hP.sub [0, 1, 2, 9, 3, 4, 5, 6, 7, 8] rfl) (hD.sub [0, 1, 2, 9, 3, 4, 5, 6, 7, 8] (by decide) rfl) hS (lv_sub hl [0, 2, 3, 4] rfl)
          · exact absurd (by decide) c_9
        · exact absurd (by decide) c_8
  · exact absurd c_1 (by decide)

def w_X1_countReached : List Cond := .code yX1_countReached cX1_countReached 3 (some .int) :: ([.fieldLink RX1 25 "ArraySegments$Flow" "isReached" "[Z"] ++ wsX10)
theorem inc_X1_countReached_X1 : ∀ w ∈ wsX10, w ∈ w_X1_countReached := fun _ h => List.mem_cons_of_mem _ (List.mem_append_right _ h)
abbrev pw_X1_countReached (cI cJ cZ : ClassId) (lh : Nat) (l3 : Nat) (ly_now : Value) (ly_ahead : Value) (ly_isOld : Value) (ly_mayThrow : Value) (ly_gatheredAny : Value) (ly_gatheredLeast : Value) (ly_gatheredGreatest : Value) (lr : Nat → Int32) : va_W := [(lh, .inr (1, [ly_now, ly_ahead, ly_isOld, .ref l3, ly_mayThrow, ly_gatheredAny, ly_gatheredLeast, ly_gatheredGreatest])), (l3, .inl (cZ, 40, .inl (ov lr 40 0)))]
set_option maxHeartbeats 4000000 in
set_option maxRecDepth 100000 in
theorem c_X1_countReached (l : Launch) (dC : Nat → ClassId) (dI : Nat → Nat → Nat) (cI cJ cZ : ClassId) (lh : Nat) (l3 : Nat) (ly_now : Value) (ly_ahead : Value) (ly_isOld : Value) (ly_mayThrow : Value) (ly_gatheredAny : Value) (ly_gatheredLeast : Value) (ly_gatheredGreatest : Value) (lr : Nat → Int32) (sz : Nat) : Met l yX1_countReached w_X1_countReached ({ frames := 0, cells := 0, slots := 0, locals := 0 }) (va_Pc [.ref lh] (cPre dC dI cI cJ cZ sz (pw_X1_countReached cI cJ cZ lh l3 ly_now ly_ahead ly_isOld ly_mayThrow ly_gatheredAny ly_gatheredLeast ly_gatheredGreatest lr))) (va_Qi (fun (r : Int32) (u : Nat → Nat) => r = 0) (fun (u : Nat → Nat) => cPost dC dI cI cJ cZ (va_A (pw_X1_countReached cI cJ cZ lh l3 ly_now ly_ahead ly_isOld ly_mayThrow ly_gatheredAny ly_gatheredLeast ly_gatheredGreatest lr) sz) [(lh, .inr (1, [ly_now, ly_ahead, ly_isOld, .ref l3, ly_mayThrow, ly_gatheredAny, ly_gatheredLeast, ly_gatheredGreatest])), (l3, .inl (cZ, 40, .inl (ov lr 40 0)))]) (va_A (pw_X1_countReached cI cJ cZ lh l3 ly_now ly_ahead ly_isOld ly_mayThrow ly_gatheredAny ly_gatheredLeast ly_gatheredGreatest lr) sz)) 0 0 (va_A (pw_X1_countReached cI cJ cZ lh l3 ly_now ly_ahead ly_isOld ly_mayThrow ly_gatheredAny ly_gatheredLeast ly_gatheredGreatest lr) sz) := by
  refine Met.ofW (cc := cX1_countReached) (maxL := 3) (ret := (some .int)) (by decide) rfl ?_
  intro p e s m args below meth c s₁ B hml hv
  obtain ⟨rfl, hsz, hP, hK, hD0, hN⟩ := hv
  have hx := B.exec
  have hb := B.bytes
  have hr := B.returns
  have hts := atoms_spec (ws := w_X1_countReached) B.pre
  have hown : s.vm.findClass RX1 = some m.cls := findClass_of_methodNamed B.named
  have hlocks := B.notSynchronized
  subst hsz
  have hD := hD0.self (sz := s.heap.size)
  generalize hAe : va_A (pw_X1_countReached cI cJ cZ lh l3 ly_now ly_ahead ly_isOld ly_mayThrow ly_gatheredAny ly_gatheredLeast ly_gatheredGreatest lr) s.heap.size = A at hD ⊢
  have hA : ∀ q : Nat, s.heap.size ≤ q → A q := fun q h => by rw [← hAe]; exact Or.inr h
  clear hAe hD0
  have hS : va_S A s.heap s.heap [] := va_S.rf
  replace hP : va_P (dC, dI) vwCl [(lh, .inr (1, [ly_now, ly_ahead, ly_isOld, .ref l3, ly_mayThrow, ly_gatheredAny, ly_gatheredLeast, ly_gatheredGreatest])), (l3, .inl (cZ, 40, .inl (ov lr 40 0)))] s.heap := hP
  replace hD : va_D A [(lh, .inr (1, [ly_now, ly_ahead, ly_isOld, .ref l3, ly_mayThrow, ly_gatheredAny, ly_gatheredLeast, ly_gatheredGreatest])), (l3, .inl (cZ, 40, .inl (ov lr 40 0)))] := hD
  have hl := lv_entry ([.ref lh]) (n := 3) (Nat.le_of_ble_eq_true rfl)
  rw [lg_entry_eq]
  generalize (lg_sl ([.ref lh]) ++ List.replicate (3 - (lg_sl ([.ref lh])).length) Slot.unset).toArray = ls at hl ⊢
  replace hl : lv_has ls 3 [(0, .ref lh)] := hl
  refine lv_iconst (v := 0) hx hb dX1_countReached_0 (by decide) ?_
  refine lv_istore_n (lv' := [(1, .int 0), (0, .ref lh)]) hx hb dX1_countReached_1 rfl hl (by decide) rfl (fun ls1 hl1 => ?_)
  replace hl := hl1; clear hl1
  refine lv_iconst (v := 0) hx hb dX1_countReached_2 (by decide) ?_
  refine lv_istore_n (lv' := [(2, .int 0), (1, .int 0), (0, .ref lh)]) hx hb dX1_countReached_3 rfl hl (by decide) rfl (fun ls1 hl1 => ?_)
  replace hl := hl1; clear hl1
  refine my_loop 40 (fun i => [(lh, .inr (1, [ly_now, ly_ahead, ly_isOld, .ref l3, ly_mayThrow, ly_gatheredAny, ly_gatheredLeast, ly_gatheredGreatest])), (l3, .inl (cZ, 40, .inl (ov lr 40 0)))]) (fun i => [(2, .int (nI i)), (1, .int 0), (0, .ref lh)]) (H0 := s.heap) (A := A) (D := (dC, dI)) (cl := vwCl) (by first | (simp only [ov_0, ovL_0]; exact hP) | exact hP) (by first | (simp only [ov_0, ovL_0]; exact hD) | exact hD) hS (by exact hl) (fun H_4 locs_4 ls1 hP1 hD1 hS1 hl1 => ?_) (fun i4 hlt_i4 ih_4 H_4 locs_4 ls1 hP1 hD1 hS1 hl1 => ?_)
  · -- behind
    replace hP : va_P (dC, dI) vwCl [(lh, .inr (1, [ly_now, ly_ahead, ly_isOld, .ref l3, ly_mayThrow, ly_gatheredAny, ly_gatheredLeast, ly_gatheredGreatest])), (l3, .inl (cZ, 40, .inl (ov lr 40 0)))] H_4 := hP1
    replace hD : va_D A [(lh, .inr (1, [ly_now, ly_ahead, ly_isOld, .ref l3, ly_mayThrow, ly_gatheredAny, ly_gatheredLeast, ly_gatheredGreatest])), (l3, .inl (cZ, 40, .inl (ov lr 40 0)))] := hD1
    replace hS := hS1
    clear hP1 hD1 hS1
    replace hl : lv_has ls1 3 [(2, .int (nI 40)), (1, .int 0), (0, .ref lh)] := hl1
    clear hl1
    refine lv_iload_n hx hb dX1_countReached_4 rfl (lv_at hl 0 rfl) ?_
    refine lv_bipush (v := 40) hx hb dX1_countReached_5 (by decide) ?_
    refine lv_icmp_ge (tgt := 28) hx hb dX1_countReached_7 (by decide) (fun c_1 => ?_) (fun c_1 => ?_)
    · -- on
      refine lv_iload_n hx hb dX1_countReached_28 rfl (lv_at hl 1 rfl) ?_
      have hP9 := hP.sub (ws' := [(lh, .inr (1, [ly_now, ly_ahead, ly_isOld, .ref l3, ly_mayThrow, ly_gatheredAny, ly_gatheredLeast, ly_gatheredGreatest])), (l3, .inl (cZ, 40, .inl (ov lr 40 0)))]) [0, 1] rfl
      have hD9 := hD.sub (ws' := [(lh, .inr (1, [ly_now, ly_ahead, ly_isOld, .ref l3, ly_mayThrow, ly_gatheredAny, ly_gatheredLeast, ly_gatheredGreatest])), (l3, .inl (cZ, 40, .inl (ov lr 40 0)))]) [0, 1] (by decide) rfl
      exact W.iret (v := 0) hx hb hr (fun t ht hW => ⟨⟨0, (fun _ => 0), rfl, rfl, by rw [ht]; exact hP9, va_K.moved hW.alike hK, hD9⟩, hS.F ht⟩) hS.2.2 dX1_countReached_29
    · exact absurd (by decide) c_1
  · -- once
    replace hP : va_P (dC, dI) vwCl [(lh, .inr (1, [ly_now, ly_ahead, ly_isOld, .ref l3, ly_mayThrow, ly_gatheredAny, ly_gatheredLeast, ly_gatheredGreatest])), (l3, .inl (cZ, 40, .inl (ov lr 40 0)))] H_4 := hP1
    replace hD : va_D A [(lh, .inr (1, [ly_now, ly_ahead, ly_isOld, .ref l3, ly_mayThrow, ly_gatheredAny, ly_gatheredLeast, ly_gatheredGreatest])), (l3, .inl (cZ, 40, .inl (ov lr 40 0)))] := hD1
    replace hS := hS1
    clear hP1 hD1 hS1
    replace hl : lv_has ls1 3 [(2, .int (nI i4)), (1, .int 0), (0, .ref lh)] := hl1
    clear hl1
    refine lv_iload_n hx hb dX1_countReached_4 rfl (lv_at hl 0 rfl) ?_
    refine lv_bipush (v := 40) hx hb dX1_countReached_5 (by decide) ?_
    refine lv_icmp_ge (tgt := 28) hx hb dX1_countReached_7 (by decide) (fun c_2 => ?_) (fun c_2 => ?_)
    · exact absurd c_2 (nI_ge hlt_i4 (by decide))
    · -- on
      refine lv_aload_n hx hb dX1_countReached_10 rfl (lv_at hl 2 rfl) ?_
      refine va_get (D := (dC, dI)) (ci := 1) (v := .ref l3) (C := RX1) (T := TX1) (N := 8) hx hb hts inc_X1_countReached_X1 hown hK hP 0 rfl rfl 3 (by decide) (hts (.fieldLink RX1 25 "ArraySegments$Flow" "isReached" "[Z") (List.mem_of_getElem? (i := 1) rfl)) (fun _ h9 => h9) rfl dX1_countReached_11 ?_
      refine lv_iload_n hx hb dX1_countReached_14 rfl (lv_at hl 0 rfl) ?_
      refine va_zald hx hb hK hP 1 2 rfl rfl (vp_in_nI (by omega) (by decide)) dX1_countReached_15 ?_
      refine my_topi (y := 0) (ov_nI lr 0 (by omega) (by decide)) ?_
      refine lv_if_eq (tgt := 22) hx hb dX1_countReached_16 (by decide) (fun c_3 => ?_) (fun c_3 => ?_)
      · -- on
        refine lv_iinc (v := nI (i4 + 1)) (lv' := [(2, .int (nI (i4 + 1))), (1, .int 0), (0, .ref lh)]) hx hb dX1_countReached_22 hl (k := 0) rfl (by rw [show Int32.ofInt 1 = (1 : Int32) from by decide]; exact nI_1 _) (by decide) rfl (fun ls1 hl1 => ?_)
        replace hl := hl1; clear hl1
        refine lv_goto (tgt := 4) hx hb dX1_countReached_25 (by decide) ?_
        exact ih_4 _ _ _ (hP.sub [0, 1] rfl) (hD.sub [0, 1] (by decide) rfl) hS (lv_sub hl [0, 1, 2] rfl)
      · exact absurd (by decide) c_3

def w_X1_countThrowing : List Cond := .code yX1_countThrowing cX1_countThrowing 3 (some .int) :: ([.fieldLink RX1 29 "ArraySegments$Flow" "mayThrow" "[I"] ++ wsX10)
theorem inc_X1_countThrowing_X1 : ∀ w ∈ wsX10, w ∈ w_X1_countThrowing := fun _ h => List.mem_cons_of_mem _ (List.mem_append_right _ h)
abbrev pw_X1_countThrowing (cI cJ cZ : ClassId) (lh : Nat) (l4 : Nat) (lz_now : Value) (lz_ahead : Value) (lz_isOld : Value) (lz_isReached : Value) (lz_gatheredAny : Value) (lz_gatheredLeast : Value) (lz_gatheredGreatest : Value) (lm : Nat → Int32) : va_W := [(lh, .inr (1, [lz_now, lz_ahead, lz_isOld, lz_isReached, .ref l4, lz_gatheredAny, lz_gatheredLeast, lz_gatheredGreatest])), (l4, .inl (cI, 40, .inl (ov lm 40 0)))]
set_option maxHeartbeats 4000000 in
set_option maxRecDepth 100000 in
theorem c_X1_countThrowing (l : Launch) (dC : Nat → ClassId) (dI : Nat → Nat → Nat) (cI cJ cZ : ClassId) (lh : Nat) (l4 : Nat) (lz_now : Value) (lz_ahead : Value) (lz_isOld : Value) (lz_isReached : Value) (lz_gatheredAny : Value) (lz_gatheredLeast : Value) (lz_gatheredGreatest : Value) (lm : Nat → Int32) (sz : Nat) : Met l yX1_countThrowing w_X1_countThrowing ({ frames := 0, cells := 0, slots := 0, locals := 0 }) (va_Pc [.ref lh] (cPre dC dI cI cJ cZ sz (pw_X1_countThrowing cI cJ cZ lh l4 lz_now lz_ahead lz_isOld lz_isReached lz_gatheredAny lz_gatheredLeast lz_gatheredGreatest lm))) (va_Qi (fun (r : Int32) (u : Nat → Nat) => r = 0) (fun (u : Nat → Nat) => cPost dC dI cI cJ cZ (va_A (pw_X1_countThrowing cI cJ cZ lh l4 lz_now lz_ahead lz_isOld lz_isReached lz_gatheredAny lz_gatheredLeast lz_gatheredGreatest lm) sz) [(lh, .inr (1, [lz_now, lz_ahead, lz_isOld, lz_isReached, .ref l4, lz_gatheredAny, lz_gatheredLeast, lz_gatheredGreatest])), (l4, .inl (cI, 40, .inl (ov lm 40 0)))]) (va_A (pw_X1_countThrowing cI cJ cZ lh l4 lz_now lz_ahead lz_isOld lz_isReached lz_gatheredAny lz_gatheredLeast lz_gatheredGreatest lm) sz)) 0 0 (va_A (pw_X1_countThrowing cI cJ cZ lh l4 lz_now lz_ahead lz_isOld lz_isReached lz_gatheredAny lz_gatheredLeast lz_gatheredGreatest lm) sz) := by
  refine Met.ofW (cc := cX1_countThrowing) (maxL := 3) (ret := (some .int)) (by decide) rfl ?_
  intro p e s m args below meth c s₁ B hml hv
  obtain ⟨rfl, hsz, hP, hK, hD0, hN⟩ := hv
  have hx := B.exec
  have hb := B.bytes
  have hr := B.returns
  have hts := atoms_spec (ws := w_X1_countThrowing) B.pre
  have hown : s.vm.findClass RX1 = some m.cls := findClass_of_methodNamed B.named
  have hlocks := B.notSynchronized
  subst hsz
  have hD := hD0.self (sz := s.heap.size)
  generalize hAe : va_A (pw_X1_countThrowing cI cJ cZ lh l4 lz_now lz_ahead lz_isOld lz_isReached lz_gatheredAny lz_gatheredLeast lz_gatheredGreatest lm) s.heap.size = A at hD ⊢
  have hA : ∀ q : Nat, s.heap.size ≤ q → A q := fun q h => by rw [← hAe]; exact Or.inr h
  clear hAe hD0
  have hS : va_S A s.heap s.heap [] := va_S.rf
  replace hP : va_P (dC, dI) vwCl [(lh, .inr (1, [lz_now, lz_ahead, lz_isOld, lz_isReached, .ref l4, lz_gatheredAny, lz_gatheredLeast, lz_gatheredGreatest])), (l4, .inl (cI, 40, .inl (ov lm 40 0)))] s.heap := hP
  replace hD : va_D A [(lh, .inr (1, [lz_now, lz_ahead, lz_isOld, lz_isReached, .ref l4, lz_gatheredAny, lz_gatheredLeast, lz_gatheredGreatest])), (l4, .inl (cI, 40, .inl (ov lm 40 0)))] := hD
  have hl := lv_entry ([.ref lh]) (n := 3) (Nat.le_of_ble_eq_true rfl)
  rw [lg_entry_eq]
  generalize (lg_sl ([.ref lh]) ++ List.replicate (3 - (lg_sl ([.ref lh])).length) Slot.unset).toArray = ls at hl ⊢
  replace hl : lv_has ls 3 [(0, .ref lh)] := hl
  refine lv_iconst (v := 0) hx hb dX1_countThrowing_0 (by decide) ?_
  refine lv_istore_n (lv' := [(1, .int 0), (0, .ref lh)]) hx hb dX1_countThrowing_1 rfl hl (by decide) rfl (fun ls1 hl1 => ?_)
  replace hl := hl1; clear hl1
  refine lv_iconst (v := 0) hx hb dX1_countThrowing_2 (by decide) ?_
  refine lv_istore_n (lv' := [(2, .int 0), (1, .int 0), (0, .ref lh)]) hx hb dX1_countThrowing_3 rfl hl (by decide) rfl (fun ls1 hl1 => ?_)
  replace hl := hl1; clear hl1
  refine my_loop 40 (fun i => [(lh, .inr (1, [lz_now, lz_ahead, lz_isOld, lz_isReached, .ref l4, lz_gatheredAny, lz_gatheredLeast, lz_gatheredGreatest])), (l4, .inl (cI, 40, .inl (ov lm 40 0)))]) (fun i => [(2, .int (nI i)), (1, .int 0), (0, .ref lh)]) (H0 := s.heap) (A := A) (D := (dC, dI)) (cl := vwCl) (by first | (simp only [ov_0, ovL_0]; exact hP) | exact hP) (by first | (simp only [ov_0, ovL_0]; exact hD) | exact hD) hS (by exact hl) (fun H_4 locs_4 ls1 hP1 hD1 hS1 hl1 => ?_) (fun i4 hlt_i4 ih_4 H_4 locs_4 ls1 hP1 hD1 hS1 hl1 => ?_)
  · -- behind
    replace hP : va_P (dC, dI) vwCl [(lh, .inr (1, [lz_now, lz_ahead, lz_isOld, lz_isReached, .ref l4, lz_gatheredAny, lz_gatheredLeast, lz_gatheredGreatest])), (l4, .inl (cI, 40, .inl (ov lm 40 0)))] H_4 := hP1
    replace hD : va_D A [(lh, .inr (1, [lz_now, lz_ahead, lz_isOld, lz_isReached, .ref l4, lz_gatheredAny, lz_gatheredLeast, lz_gatheredGreatest])), (l4, .inl (cI, 40, .inl (ov lm 40 0)))] := hD1
    replace hS := hS1
    clear hP1 hD1 hS1
    replace hl : lv_has ls1 3 [(2, .int (nI 40)), (1, .int 0), (0, .ref lh)] := hl1
    clear hl1
    refine lv_iload_n hx hb dX1_countThrowing_4 rfl (lv_at hl 0 rfl) ?_
    refine lv_bipush (v := 40) hx hb dX1_countThrowing_5 (by decide) ?_
    refine lv_icmp_ge (tgt := 28) hx hb dX1_countThrowing_7 (by decide) (fun c_1 => ?_) (fun c_1 => ?_)
    · -- on
      refine lv_iload_n hx hb dX1_countThrowing_28 rfl (lv_at hl 1 rfl) ?_
      have hP9 := hP.sub (ws' := [(lh, .inr (1, [lz_now, lz_ahead, lz_isOld, lz_isReached, .ref l4, lz_gatheredAny, lz_gatheredLeast, lz_gatheredGreatest])), (l4, .inl (cI, 40, .inl (ov lm 40 0)))]) [0, 1] rfl
      have hD9 := hD.sub (ws' := [(lh, .inr (1, [lz_now, lz_ahead, lz_isOld, lz_isReached, .ref l4, lz_gatheredAny, lz_gatheredLeast, lz_gatheredGreatest])), (l4, .inl (cI, 40, .inl (ov lm 40 0)))]) [0, 1] (by decide) rfl
      exact W.iret (v := 0) hx hb hr (fun t ht hW => ⟨⟨0, (fun _ => 0), rfl, rfl, by rw [ht]; exact hP9, va_K.moved hW.alike hK, hD9⟩, hS.F ht⟩) hS.2.2 dX1_countThrowing_29
    · exact absurd (by decide) c_1
  · -- once
    replace hP : va_P (dC, dI) vwCl [(lh, .inr (1, [lz_now, lz_ahead, lz_isOld, lz_isReached, .ref l4, lz_gatheredAny, lz_gatheredLeast, lz_gatheredGreatest])), (l4, .inl (cI, 40, .inl (ov lm 40 0)))] H_4 := hP1
    replace hD : va_D A [(lh, .inr (1, [lz_now, lz_ahead, lz_isOld, lz_isReached, .ref l4, lz_gatheredAny, lz_gatheredLeast, lz_gatheredGreatest])), (l4, .inl (cI, 40, .inl (ov lm 40 0)))] := hD1
    replace hS := hS1
    clear hP1 hD1 hS1
    replace hl : lv_has ls1 3 [(2, .int (nI i4)), (1, .int 0), (0, .ref lh)] := hl1
    clear hl1
    refine lv_iload_n hx hb dX1_countThrowing_4 rfl (lv_at hl 0 rfl) ?_
    refine lv_bipush (v := 40) hx hb dX1_countThrowing_5 (by decide) ?_
    refine lv_icmp_ge (tgt := 28) hx hb dX1_countThrowing_7 (by decide) (fun c_2 => ?_) (fun c_2 => ?_)
    · exact absurd c_2 (nI_ge hlt_i4 (by decide))
    · -- on
      refine lv_aload_n hx hb dX1_countThrowing_10 rfl (lv_at hl 2 rfl) ?_
      refine va_get (D := (dC, dI)) (ci := 1) (v := .ref l4) (C := RX1) (T := TX1) (N := 8) hx hb hts inc_X1_countThrowing_X1 hown hK hP 0 rfl rfl 4 (by decide) (hts (.fieldLink RX1 29 "ArraySegments$Flow" "mayThrow" "[I") (List.mem_of_getElem? (i := 1) rfl)) (fun _ h9 => h9) rfl dX1_countThrowing_11 ?_
      refine lv_iload_n hx hb dX1_countThrowing_14 rfl (lv_at hl 0 rfl) ?_
      refine va_iald hx hb hK hP 1 0 rfl rfl (vp_in_nI (by omega) (by decide)) dX1_countThrowing_15 ?_
      refine my_topi (y := 0) (ov_nI lm 0 (by omega) (by decide)) ?_
      refine lv_if_eq (tgt := 22) hx hb dX1_countThrowing_16 (by decide) (fun c_3 => ?_) (fun c_3 => ?_)
      · -- on
        refine lv_iinc (v := nI (i4 + 1)) (lv' := [(2, .int (nI (i4 + 1))), (1, .int 0), (0, .ref lh)]) hx hb dX1_countThrowing_22 hl (k := 0) rfl (by rw [show Int32.ofInt 1 = (1 : Int32) from by decide]; exact nI_1 _) (by decide) rfl (fun ls1 hl1 => ?_)
        replace hl := hl1; clear hl1
        refine lv_goto (tgt := 4) hx hb dX1_countThrowing_25 (by decide) ?_
        exact ih_4 _ _ _ (hP.sub [0, 1] rfl) (hD.sub [0, 1] (by decide) rfl) hS (lv_sub hl [0, 1, 2] rfl)
      · exact absurd (by decide) c_3

def w_X1_init : List Cond := .code yX1_init cX1_init 1 none :: ([.methodLink RX1 3 objectInit, .instanceMethod objectInit, .code objectInit ⟨#[0xb1]⟩ 1 none, .classLink RX1 9 RX0, .instantiable RX0 11, .initialized RX0, .code yX0_init cX0_init 1 none, .methodLink RX0 3 objectInit, .fieldLink RX0 9 "ArraySegments$Facts" "isReached" "Z", .arrayClass .int, .fieldLink RX0 15 "ArraySegments$Facts" "least" "[I", .fieldLink RX0 19 "ArraySegments$Facts" "greatest" "[I", .arrayClass .long, .fieldLink RX0 22 "ArraySegments$Facts" "sites" "[J", .arrayClass .boolean, .fieldLink RX0 26 "ArraySegments$Facts" "maybeNull" "[Z", .fieldLink RX0 30 "ArraySegments$Facts" "known" "[Z", .fieldLink RX0 33 "ArraySegments$Facts" "lanes" "[I", .fieldLink RX0 36 "ArraySegments$Facts" "shortest" "[I", .fieldLink RX0 39 "ArraySegments$Facts" "longest" "[I", .fieldLink RX0 42 "ArraySegments$Facts" "leastAt" "[I", .fieldLink RX0 45 "ArraySegments$Facts" "greatestAt" "[I", .instanceMethod yX0_init, .fieldLink RX1 12 "ArraySegments$Flow" "now" "LArraySegments$Facts;", .fieldLink RX1 18 "ArraySegments$Flow" "ahead" "LArraySegments$Facts;", .fieldLink RX1 21 "ArraySegments$Flow" "isOld" "Z", .fieldLink RX1 25 "ArraySegments$Flow" "isReached" "[Z", .fieldLink RX1 29 "ArraySegments$Flow" "mayThrow" "[I", .fieldLink RX1 33 "ArraySegments$Flow" "gatheredAny" "Z", .fieldLink RX1 36 "ArraySegments$Flow" "gatheredLeast" "I", .fieldLink RX1 40 "ArraySegments$Flow" "gatheredGreatest" "I"] ++ wsX00 ++ wsX10)
theorem inc_X1_init_X0 : ∀ w ∈ wsX00, w ∈ w_X1_init := fun _ h => List.mem_cons_of_mem _ (List.mem_append_left _ (List.mem_append_right _ h))
theorem inc_X1_init_X1 : ∀ w ∈ wsX10, w ∈ w_X1_init := fun _ h => List.mem_cons_of_mem _ (List.mem_append_right _ h)
set_option maxRecDepth 20000 in
theorem g_X1_init_X0_init_11 : GoodIn w_X1_init (w_X0_init) := goodIn_r _ [7, 8, 2, 3, 9, 10, 11, 12, 13, 14, 15, 16, 17, 18, 19, 20, 21, 22, 32, 33, 34, 35, 36, 37, 38, 39, 40, 41, 42] (by decide +kernel) (by decide +kernel)
abbrev pw_X1_init (cI cJ cZ : ClassId) (lh : Nat) : va_W := [(lh, .inr (1, [.null, .null, .int 0, .null, .null, .int 0, .int 0, .int 0]))]
set_option maxHeartbeats 4000000 in
set_option maxRecDepth 100000 in
theorem c_X1_init (l : Launch) (dC : Nat → ClassId) (dI : Nat → Nat → Nat) (cI cJ cZ : ClassId) (lh : Nat) (sz : Nat) : Met l yX1_init w_X1_init ({ frames := 2, cells := 24, slots := 2390, locals := 32 }) (va_Pc [.ref lh] (cPre dC dI cI cJ cZ sz (pw_X1_init cI cJ cZ lh))) (va_Qv (fun (u : Nat → Nat) => True) (fun (u : Nat → Nat) => cPost dC dI cI cJ cZ (va_A (pw_X1_init cI cJ cZ lh) sz) [(lh, .inr (1, [.ref (u 0), .ref (u 11), .int 1, .ref (u 22), .ref (u 23), .int 0, .int 0, .int 0])), ((u 0), .inr (0, [.int 0, .ref (u 1), .ref (u 2), .ref (u 3), .ref (u 4), .ref (u 5), .ref (u 6), .ref (u 7), .ref (u 8), .ref (u 9), .ref (u 10)])), ((u 1), .inl (cI, 6, .inl (fun _ => 0))), ((u 2), .inl (cI, 6, .inl (fun _ => 0))), ((u 3), .inl (cJ, 6, .inr (.inl (fun _ => 0)))), ((u 4), .inl (cZ, 6, .inl (fun _ => 0))), ((u 5), .inl (cZ, 40, .inl (fun _ => 0))), ((u 6), .inl (cI, 40, .inl (fun _ => 0))), ((u 7), .inl (cI, 40, .inl (fun _ => 0))), ((u 8), .inl (cI, 40, .inl (fun _ => 0))), ((u 9), .inl (cI, 480, .inl (fun _ => 0))), ((u 10), .inl (cI, 480, .inl (fun _ => 0))), ((u 11), .inr (0, [.int 0, .ref (u 12), .ref (u 13), .ref (u 14), .ref (u 15), .ref (u 16), .ref (u 17), .ref (u 18), .ref (u 19), .ref (u 20), .ref (u 21)])), ((u 12), .inl (cI, 6, .inl (fun _ => 0))), ((u 13), .inl (cI, 6, .inl (fun _ => 0))), ((u 14), .inl (cJ, 6, .inr (.inl (fun _ => 0)))), ((u 15), .inl (cZ, 6, .inl (fun _ => 0))), ((u 16), .inl (cZ, 40, .inl (fun _ => 0))), ((u 17), .inl (cI, 40, .inl (fun _ => 0))), ((u 18), .inl (cI, 40, .inl (fun _ => 0))), ((u 19), .inl (cI, 40, .inl (fun _ => 0))), ((u 20), .inl (cI, 480, .inl (fun _ => 0))), ((u 21), .inl (cI, 480, .inl (fun _ => 0))), ((u 22), .inl (cZ, 40, .inl (fun _ => 0))), ((u 23), .inl (cI, 40, .inl (fun _ => 0)))]) (va_A (pw_X1_init cI cJ cZ lh) sz)) 24 2390 (va_A (pw_X1_init cI cJ cZ lh) sz) := by
  refine Met.ofW (cc := cX1_init) (maxL := 1) (ret := none) (by decide) rfl ?_
  intro p e s m args below meth c s₁ B hml hv
  obtain ⟨rfl, hsz, hP, hK, hD0, hN⟩ := hv
  have hx := B.exec
  have hb := B.bytes
  have hr := B.returns
  have hts := atoms_spec (ws := w_X1_init) B.pre
  have hown : s.vm.findClass RX1 = some m.cls := findClass_of_methodNamed B.named
  have hlocks := B.notSynchronized
  have hin : meth.name = "<init>" := (name_of_methodNamed B.named B.method).1
  subst hsz
  have hD := hD0.self (sz := s.heap.size)
  generalize hAe : va_A (pw_X1_init cI cJ cZ lh) s.heap.size = A at hD ⊢
  have hA : ∀ q : Nat, s.heap.size ≤ q → A q := fun q h => by rw [← hAe]; exact Or.inr h
  clear hAe hD0
  have hS : va_S A s.heap s.heap [] := va_S.rf
  replace hP : va_P (dC, dI) vwCl [(lh, .inr (1, [.null, .null, .int 0, .null, .null, .int 0, .int 0, .int 0]))] s.heap := hP
  replace hD : va_D A [(lh, .inr (1, [.null, .null, .int 0, .null, .null, .int 0, .int 0, .int 0]))] := hD
  have hl := lv_entry ([.ref lh]) (n := 1) (Nat.le_of_ble_eq_true rfl)
  rw [lg_entry_eq]
  generalize (lg_sl ([.ref lh]) ++ List.replicate (1 - (lg_sl ([.ref lh])).length) Slot.unset).toArray = ls at hl ⊢
  replace hl : lv_has ls 1 [(0, .ref lh)] := hl
  refine lv_aload_n hx hb dX1_init_0 rfl (lv_at hl 0 rfl) ?_
  refine W.objInit hx hb hown (hts (.methodLink RX1 3 objectInit) (List.mem_of_getElem? (i := 1) rfl)) (hts (.instanceMethod objectInit) (List.mem_of_getElem? (i := 2) rfl)) (hts (.code objectInit ⟨#[0xb1]⟩ 1 none) (List.mem_of_getElem? (i := 3) rfl)) rfl (by rw [hml]; exact hl.1) rfl dX1_init_1 (Nat.le_of_ble_eq_true rfl) (Nat.le_of_ble_eq_true rfl) ?_
  refine W.eq (g2 := F0 m 4 _ []) rfl ?_
  refine lv_aload_n hx hb dX1_init_4 rfl (lv_at hl 0 rfl) ?_
  refine va_new (ci := 0) (fs := [.int 0, .null, .null, .null, .null, .null, .null, .null, .null, .null, .null]) (C := RX0) (T := TX0) (N := 11) hx hb hts inc_X1_init_X0 tyX0 tyX0_ok hown (hts (.classLink RX1 9 RX0) (List.mem_of_getElem? (i := 4) rfl)) (hts (.instantiable RX0 11) (List.mem_of_getElem? (i := 5) rfl)) (hts (.initialized RX0) (List.mem_of_getElem? (i := 6) rfl)) hK hP hD hS hA rfl (fun j hj => by rcases (show j = 0 ∨ j = 1 ∨ j = 2 ∨ j = 3 ∨ j = 4 ∨ j = 5 ∨ j = 6 ∨ j = 7 ∨ j = 8 ∨ j = 9 ∨ j = 10 by omega) with rfl | rfl | rfl | rfl | rfl | rfl | rfl | rfl | rfl | rfl | rfl <;> rfl) (Nat.le_of_ble_eq_true rfl) (Nat.le_of_ble_eq_true rfl) dX1_init_5 (fun q_1 H_1 hP1 hD1 hS1 => ?_)
  replace hP : va_P (dC, dI) vwCl [(lh, .inr (1, [.null, .null, .int 0, .null, .null, .int 0, .int 0, .int 0])), (q_1, .inr (0, [.int 0, .null, .null, .null, .null, .null, .null, .null, .null, .null, .null]))] H_1 := hP1
  replace hD : va_D A [(lh, .inr (1, [.null, .null, .int 0, .null, .null, .int 0, .int 0, .int 0])), (q_1, .inr (0, [.int 0, .null, .null, .null, .null, .null, .null, .null, .null, .null, .null]))] := hD1
  replace hS := hS1
  clear hP1 hD1 hS1
  refine W.widen (k := 1) (n := 11) (Nat.le_of_ble_eq_true rfl) (Nat.le_of_ble_eq_true rfl) ?_
  refine lv_dup hx hb dX1_init_8 rfl ?_
  have hPc := hP.sub (ws' := [(q_1, .inr (0, [.int 0, .null, .null, .null, .null, .null, .null, .null, .null, .null, .null]))]) [1] rfl
  have hDc := hD.sub (ws' := [(q_1, .inr (0, [.int 0, .null, .null, .null, .null, .null, .null, .null, .null, .null, .null]))]) [1] (by decide) rfl
  have hFc := va_free (wc := [(q_1, .inr (0, [.int 0, .null, .null, .null, .null, .null, .null, .null, .null, .null, .null]))]) hD hS hA [1] rfl
  refine va_callv (va_runIN (As := []) (rest := [.ref q_1, .ref lh]) ⟨hx, hb, hml, hown, hts⟩ (c_X0_init l dC dI cI cJ cZ q_1 H_1.size) (⟨va_cnB 0 hts g_X1_init_X0_init_11 rfl rfl rfl (hN.2.2.1) (hts (.initialized RX0) (List.mem_of_getElem? (i := 6) rfl)) (by decide +kernel) ⟨Nat.le_of_ble_eq_true rfl, Nat.le_of_ble_eq_true rfl⟩, rfl, hts (.instanceMethod yX0_init) (List.mem_of_getElem? (i := 23) rfl)⟩) ⟨cPre_blind, cPre_of hK hN hPc hDc⟩ rfl rfl hl.1 rfl (lv_room (Nat.le_of_ble_eq_true rfl)) dX1_init_9 ⟨Nat.le_of_ble_eq_true rfl, Nat.le_of_ble_eq_true rfl⟩) hS (fun q _ h => hFc q h) hFc (fun u_2 t_2 H_2 locs_2 ht hvm hw_2 hB hz1 hk1 hS1 => ?_)
  obtain ⟨hP1, hK1, hD1⟩ := hB
  rw [ht] at hP1
  obtain ⟨hP2, hD2⟩ := va_join (wr := [(lh, .inr (1, [.null, .null, .int 0, .null, .null, .int 0, .int 0, .int 0]))]) (w1 := [(q_1, .inr (0, [.int 0, .ref (u_2 0), .ref (u_2 1), .ref (u_2 2), .ref (u_2 3), .ref (u_2 4), .ref (u_2 5), .ref (u_2 6), .ref (u_2 7), .ref (u_2 8), .ref (u_2 9)])), ((u_2 0), .inl (cI, 6, .inl (fun _ => 0))), ((u_2 1), .inl (cI, 6, .inl (fun _ => 0))), ((u_2 2), .inl (cJ, 6, .inr (.inl (fun _ => 0)))), ((u_2 3), .inl (cZ, 6, .inl (fun _ => 0))), ((u_2 4), .inl (cZ, 40, .inl (fun _ => 0))), ((u_2 5), .inl (cI, 40, .inl (fun _ => 0))), ((u_2 6), .inl (cI, 40, .inl (fun _ => 0))), ((u_2 7), .inl (cI, 40, .inl (fun _ => 0))), ((u_2 8), .inl (cI, 480, .inl (fun _ => 0))), ((u_2 9), .inl (cI, 480, .inl (fun _ => 0)))]) hP hD [1] [0] rfl rfl (by decide) (by decide) hk1 hFc hP1 hD1
  clear hPc hDc hFc hP1 hD1 hK1 hk1 hz1 hvm ht
  replace hP : va_P (dC, dI) vwCl [(lh, .inr (1, [.null, .null, .int 0, .null, .null, .int 0, .int 0, .int 0])), (q_1, .inr (0, [.int 0, .ref (u_2 0), .ref (u_2 1), .ref (u_2 2), .ref (u_2 3), .ref (u_2 4), .ref (u_2 5), .ref (u_2 6), .ref (u_2 7), .ref (u_2 8), .ref (u_2 9)])), ((u_2 0), .inl (cI, 6, .inl (fun _ => 0))), ((u_2 1), .inl (cI, 6, .inl (fun _ => 0))), ((u_2 2), .inl (cJ, 6, .inr (.inl (fun _ => 0)))), ((u_2 3), .inl (cZ, 6, .inl (fun _ => 0))), ((u_2 4), .inl (cZ, 40, .inl (fun _ => 0))), ((u_2 5), .inl (cI, 40, .inl (fun _ => 0))), ((u_2 6), .inl (cI, 40, .inl (fun _ => 0))), ((u_2 7), .inl (cI, 40, .inl (fun _ => 0))), ((u_2 8), .inl (cI, 480, .inl (fun _ => 0))), ((u_2 9), .inl (cI, 480, .inl (fun _ => 0)))] H_2 := hP2
  replace hD : va_D A [(lh, .inr (1, [.null, .null, .int 0, .null, .null, .int 0, .int 0, .int 0])), (q_1, .inr (0, [.int 0, .ref (u_2 0), .ref (u_2 1), .ref (u_2 2), .ref (u_2 3), .ref (u_2 4), .ref (u_2 5), .ref (u_2 6), .ref (u_2 7), .ref (u_2 8), .ref (u_2 9)])), ((u_2 0), .inl (cI, 6, .inl (fun _ => 0))), ((u_2 1), .inl (cI, 6, .inl (fun _ => 0))), ((u_2 2), .inl (cJ, 6, .inr (.inl (fun _ => 0)))), ((u_2 3), .inl (cZ, 6, .inl (fun _ => 0))), ((u_2 4), .inl (cZ, 40, .inl (fun _ => 0))), ((u_2 5), .inl (cI, 40, .inl (fun _ => 0))), ((u_2 6), .inl (cI, 40, .inl (fun _ => 0))), ((u_2 7), .inl (cI, 40, .inl (fun _ => 0))), ((u_2 8), .inl (cI, 480, .inl (fun _ => 0))), ((u_2 9), .inl (cI, 480, .inl (fun _ => 0)))] := hD2
  replace hS := hS1
  clear hP2 hD2 hS1
  refine W.widen (k := 11) (n := 1155) (Nat.le_of_ble_eq_true rfl) (Nat.le_of_ble_eq_true rfl) ?_
  refine va_putF (D := (dC, dI)) (ci := 1) (v := .ref q_1) (ty := .object "ArraySegments$Facts") (C := RX1) (T := TX1) (N := 8) hx hb hts inc_X1_init_X1 tyX1 tyX1_ok nmX1 hown hK hP hD hS 0 rfl rfl 0 (by decide) (hts (.fieldLink RX1 12 "ArraySegments$Flow" "now" "LArraySegments$Facts;") (List.mem_of_getElem? (i := 24) rfl)) (fun _ h9 => h9) rfl hin rfl (by decide +kernel) rfl rfl (Nat.le_of_ble_eq_true rfl) dX1_init_12 (fun H_3 locs_3 hP1 hD1 hS1 => ?_)
  replace hP : va_P (dC, dI) vwCl [(lh, .inr (1, [.ref q_1, .null, .int 0, .null, .null, .int 0, .int 0, .int 0])), (q_1, .inr (0, [.int 0, .ref (u_2 0), .ref (u_2 1), .ref (u_2 2), .ref (u_2 3), .ref (u_2 4), .ref (u_2 5), .ref (u_2 6), .ref (u_2 7), .ref (u_2 8), .ref (u_2 9)])), ((u_2 0), .inl (cI, 6, .inl (fun _ => 0))), ((u_2 1), .inl (cI, 6, .inl (fun _ => 0))), ((u_2 2), .inl (cJ, 6, .inr (.inl (fun _ => 0)))), ((u_2 3), .inl (cZ, 6, .inl (fun _ => 0))), ((u_2 4), .inl (cZ, 40, .inl (fun _ => 0))), ((u_2 5), .inl (cI, 40, .inl (fun _ => 0))), ((u_2 6), .inl (cI, 40, .inl (fun _ => 0))), ((u_2 7), .inl (cI, 40, .inl (fun _ => 0))), ((u_2 8), .inl (cI, 480, .inl (fun _ => 0))), ((u_2 9), .inl (cI, 480, .inl (fun _ => 0)))] H_3 := hP1
  replace hD : va_D A [(lh, .inr (1, [.ref q_1, .null, .int 0, .null, .null, .int 0, .int 0, .int 0])), (q_1, .inr (0, [.int 0, .ref (u_2 0), .ref (u_2 1), .ref (u_2 2), .ref (u_2 3), .ref (u_2 4), .ref (u_2 5), .ref (u_2 6), .ref (u_2 7), .ref (u_2 8), .ref (u_2 9)])), ((u_2 0), .inl (cI, 6, .inl (fun _ => 0))), ((u_2 1), .inl (cI, 6, .inl (fun _ => 0))), ((u_2 2), .inl (cJ, 6, .inr (.inl (fun _ => 0)))), ((u_2 3), .inl (cZ, 6, .inl (fun _ => 0))), ((u_2 4), .inl (cZ, 40, .inl (fun _ => 0))), ((u_2 5), .inl (cI, 40, .inl (fun _ => 0))), ((u_2 6), .inl (cI, 40, .inl (fun _ => 0))), ((u_2 7), .inl (cI, 40, .inl (fun _ => 0))), ((u_2 8), .inl (cI, 480, .inl (fun _ => 0))), ((u_2 9), .inl (cI, 480, .inl (fun _ => 0)))] := hD1
  replace hS := hS1
  clear hP1 hD1 hS1
  refine lv_aload_n hx hb dX1_init_15 rfl (lv_at hl 0 rfl) ?_
  refine va_new (ci := 0) (fs := [.int 0, .null, .null, .null, .null, .null, .null, .null, .null, .null, .null]) (C := RX0) (T := TX0) (N := 11) hx hb hts inc_X1_init_X0 tyX0 tyX0_ok hown (hts (.classLink RX1 9 RX0) (List.mem_of_getElem? (i := 4) rfl)) (hts (.instantiable RX0 11) (List.mem_of_getElem? (i := 5) rfl)) (hts (.initialized RX0) (List.mem_of_getElem? (i := 6) rfl)) hK hP hD hS hA rfl (fun j hj => by rcases (show j = 0 ∨ j = 1 ∨ j = 2 ∨ j = 3 ∨ j = 4 ∨ j = 5 ∨ j = 6 ∨ j = 7 ∨ j = 8 ∨ j = 9 ∨ j = 10 by omega) with rfl | rfl | rfl | rfl | rfl | rfl | rfl | rfl | rfl | rfl | rfl <;> rfl) (Nat.le_of_ble_eq_true rfl) (Nat.le_of_ble_eq_true rfl) dX1_init_16 (fun q_4 H_4 hP1 hD1 hS1 => ?_)
  replace hP : va_P (dC, dI) vwCl [(lh, .inr (1, [.ref q_1, .null, .int 0, .null, .null, .int 0, .int 0, .int 0])), (q_1, .inr (0, [.int 0, .ref (u_2 0), .ref (u_2 1), .ref (u_2 2), .ref (u_2 3), .ref (u_2 4), .ref (u_2 5), .ref (u_2 6), .ref (u_2 7), .ref (u_2 8), .ref (u_2 9)])), ((u_2 0), .inl (cI, 6, .inl (fun _ => 0))), ((u_2 1), .inl (cI, 6, .inl (fun _ => 0))), ((u_2 2), .inl (cJ, 6, .inr (.inl (fun _ => 0)))), ((u_2 3), .inl (cZ, 6, .inl (fun _ => 0))), ((u_2 4), .inl (cZ, 40, .inl (fun _ => 0))), ((u_2 5), .inl (cI, 40, .inl (fun _ => 0))), ((u_2 6), .inl (cI, 40, .inl (fun _ => 0))), ((u_2 7), .inl (cI, 40, .inl (fun _ => 0))), ((u_2 8), .inl (cI, 480, .inl (fun _ => 0))), ((u_2 9), .inl (cI, 480, .inl (fun _ => 0))), (q_4, .inr (0, [.int 0, .null, .null, .null, .null, .null, .null, .null, .null, .null, .null]))] H_4 := hP1
  replace hD : va_D A [(lh, .inr (1, [.ref q_1, .null, .int 0, .null, .null, .int 0, .int 0, .int 0])), (q_1, .inr (0, [.int 0, .ref (u_2 0), .ref (u_2 1), .ref (u_2 2), .ref (u_2 3), .ref (u_2 4), .ref (u_2 5), .ref (u_2 6), .ref (u_2 7), .ref (u_2 8), .ref (u_2 9)])), ((u_2 0), .inl (cI, 6, .inl (fun _ => 0))), ((u_2 1), .inl (cI, 6, .inl (fun _ => 0))), ((u_2 2), .inl (cJ, 6, .inr (.inl (fun _ => 0)))), ((u_2 3), .inl (cZ, 6, .inl (fun _ => 0))), ((u_2 4), .inl (cZ, 40, .inl (fun _ => 0))), ((u_2 5), .inl (cI, 40, .inl (fun _ => 0))), ((u_2 6), .inl (cI, 40, .inl (fun _ => 0))), ((u_2 7), .inl (cI, 40, .inl (fun _ => 0))), ((u_2 8), .inl (cI, 480, .inl (fun _ => 0))), ((u_2 9), .inl (cI, 480, .inl (fun _ => 0))), (q_4, .inr (0, [.int 0, .null, .null, .null, .null, .null, .null, .null, .null, .null, .null]))] := hD1
  replace hS := hS1
  clear hP1 hD1 hS1
  refine W.widen (k := 12) (n := 1166) (Nat.le_of_ble_eq_true rfl) (Nat.le_of_ble_eq_true rfl) ?_
  refine lv_dup hx hb dX1_init_19 rfl ?_
  have hPc := hP.sub (ws' := [(q_4, .inr (0, [.int 0, .null, .null, .null, .null, .null, .null, .null, .null, .null, .null]))]) [12] rfl
  have hDc := hD.sub (ws' := [(q_4, .inr (0, [.int 0, .null, .null, .null, .null, .null, .null, .null, .null, .null, .null]))]) [12] (by decide) rfl
  have hFc := va_free (wc := [(q_4, .inr (0, [.int 0, .null, .null, .null, .null, .null, .null, .null, .null, .null, .null]))]) hD hS hA [12] rfl
  refine va_callv (va_runIN (As := []) (rest := [.ref q_4, .ref lh]) ⟨hx, hb, hml, hown, hts⟩ (c_X0_init l dC dI cI cJ cZ q_4 H_4.size) (⟨va_cnB 0 hts g_X1_init_X0_init_11 rfl rfl rfl (hN.2.2.1) (hts (.initialized RX0) (List.mem_of_getElem? (i := 6) rfl)) (by decide +kernel) ⟨Nat.le_of_ble_eq_true rfl, Nat.le_of_ble_eq_true rfl⟩, rfl, hts (.instanceMethod yX0_init) (List.mem_of_getElem? (i := 23) rfl)⟩) ⟨cPre_blind, cPre_of hK hN hPc hDc⟩ rfl rfl hl.1 rfl (lv_room (Nat.le_of_ble_eq_true rfl)) dX1_init_20 ⟨Nat.le_of_ble_eq_true rfl, Nat.le_of_ble_eq_true rfl⟩) hS (fun q _ h => hFc q h) hFc (fun u_5 t_5 H_5 locs_5 ht hvm hw_5 hB hz1 hk1 hS1 => ?_)
  obtain ⟨hP1, hK1, hD1⟩ := hB
  rw [ht] at hP1
  obtain ⟨hP2, hD2⟩ := va_join (wr := [(lh, .inr (1, [.ref q_1, .null, .int 0, .null, .null, .int 0, .int 0, .int 0])), (q_1, .inr (0, [.int 0, .ref (u_2 0), .ref (u_2 1), .ref (u_2 2), .ref (u_2 3), .ref (u_2 4), .ref (u_2 5), .ref (u_2 6), .ref (u_2 7), .ref (u_2 8), .ref (u_2 9)])), ((u_2 0), .inl (cI, 6, .inl (fun _ => 0))), ((u_2 1), .inl (cI, 6, .inl (fun _ => 0))), ((u_2 2), .inl (cJ, 6, .inr (.inl (fun _ => 0)))), ((u_2 3), .inl (cZ, 6, .inl (fun _ => 0))), ((u_2 4), .inl (cZ, 40, .inl (fun _ => 0))), ((u_2 5), .inl (cI, 40, .inl (fun _ => 0))), ((u_2 6), .inl (cI, 40, .inl (fun _ => 0))), ((u_2 7), .inl (cI, 40, .inl (fun _ => 0))), ((u_2 8), .inl (cI, 480, .inl (fun _ => 0))), ((u_2 9), .inl (cI, 480, .inl (fun _ => 0)))]) (w1 := [(q_4, .inr (0, [.int 0, .ref (u_5 0), .ref (u_5 1), .ref (u_5 2), .ref (u_5 3), .ref (u_5 4), .ref (u_5 5), .ref (u_5 6), .ref (u_5 7), .ref (u_5 8), .ref (u_5 9)])), ((u_5 0), .inl (cI, 6, .inl (fun _ => 0))), ((u_5 1), .inl (cI, 6, .inl (fun _ => 0))), ((u_5 2), .inl (cJ, 6, .inr (.inl (fun _ => 0)))), ((u_5 3), .inl (cZ, 6, .inl (fun _ => 0))), ((u_5 4), .inl (cZ, 40, .inl (fun _ => 0))), ((u_5 5), .inl (cI, 40, .inl (fun _ => 0))), ((u_5 6), .inl (cI, 40, .inl (fun _ => 0))), ((u_5 7), .inl (cI, 40, .inl (fun _ => 0))), ((u_5 8), .inl (cI, 480, .inl (fun _ => 0))), ((u_5 9), .inl (cI, 480, .inl (fun _ => 0)))]) hP hD [12] [0, 1, 2, 3, 4, 5, 6, 7, 8, 9, 10, 11] rfl rfl (by decide) (by decide) hk1 hFc hP1 hD1
  clear hPc hDc hFc hP1 hD1 hK1 hk1 hz1 hvm ht
  replace hP : va_P (dC, dI) vwCl [(lh, .inr (1, [.ref q_1, .null, .int 0, .null, .null, .int 0, .int 0, .int 0])), (q_1, .inr (0, [.int 0, .ref (u_2 0), .ref (u_2 1), .ref (u_2 2), .ref (u_2 3), .ref (u_2 4), .ref (u_2 5), .ref (u_2 6), .ref (u_2 7), .ref (u_2 8), .ref (u_2 9)])), ((u_2 0), .inl (cI, 6, .inl (fun _ => 0))), ((u_2 1), .inl (cI, 6, .inl (fun _ => 0))), ((u_2 2), .inl (cJ, 6, .inr (.inl (fun _ => 0)))), ((u_2 3), .inl (cZ, 6, .inl (fun _ => 0))), ((u_2 4), .inl (cZ, 40, .inl (fun _ => 0))), ((u_2 5), .inl (cI, 40, .inl (fun _ => 0))), ((u_2 6), .inl (cI, 40, .inl (fun _ => 0))), ((u_2 7), .inl (cI, 40, .inl (fun _ => 0))), ((u_2 8), .inl (cI, 480, .inl (fun _ => 0))), ((u_2 9), .inl (cI, 480, .inl (fun _ => 0))), (q_4, .inr (0, [.int 0, .ref (u_5 0), .ref (u_5 1), .ref (u_5 2), .ref (u_5 3), .ref (u_5 4), .ref (u_5 5), .ref (u_5 6), .ref (u_5 7), .ref (u_5 8), .ref (u_5 9)])), ((u_5 0), .inl (cI, 6, .inl (fun _ => 0))), ((u_5 1), .inl (cI, 6, .inl (fun _ => 0))), ((u_5 2), .inl (cJ, 6, .inr (.inl (fun _ => 0)))), ((u_5 3), .inl (cZ, 6, .inl (fun _ => 0))), ((u_5 4), .inl (cZ, 40, .inl (fun _ => 0))), ((u_5 5), .inl (cI, 40, .inl (fun _ => 0))), ((u_5 6), .inl (cI, 40, .inl (fun _ => 0))), ((u_5 7), .inl (cI, 40, .inl (fun _ => 0))), ((u_5 8), .inl (cI, 480, .inl (fun _ => 0))), ((u_5 9), .inl (cI, 480, .inl (fun _ => 0)))] H_5 := hP2
  replace hD : va_D A [(lh, .inr (1, [.ref q_1, .null, .int 0, .null, .null, .int 0, .int 0, .int 0])), (q_1, .inr (0, [.int 0, .ref (u_2 0), .ref (u_2 1), .ref (u_2 2), .ref (u_2 3), .ref (u_2 4), .ref (u_2 5), .ref (u_2 6), .ref (u_2 7), .ref (u_2 8), .ref (u_2 9)])), ((u_2 0), .inl (cI, 6, .inl (fun _ => 0))), ((u_2 1), .inl (cI, 6, .inl (fun _ => 0))), ((u_2 2), .inl (cJ, 6, .inr (.inl (fun _ => 0)))), ((u_2 3), .inl (cZ, 6, .inl (fun _ => 0))), ((u_2 4), .inl (cZ, 40, .inl (fun _ => 0))), ((u_2 5), .inl (cI, 40, .inl (fun _ => 0))), ((u_2 6), .inl (cI, 40, .inl (fun _ => 0))), ((u_2 7), .inl (cI, 40, .inl (fun _ => 0))), ((u_2 8), .inl (cI, 480, .inl (fun _ => 0))), ((u_2 9), .inl (cI, 480, .inl (fun _ => 0))), (q_4, .inr (0, [.int 0, .ref (u_5 0), .ref (u_5 1), .ref (u_5 2), .ref (u_5 3), .ref (u_5 4), .ref (u_5 5), .ref (u_5 6), .ref (u_5 7), .ref (u_5 8), .ref (u_5 9)])), ((u_5 0), .inl (cI, 6, .inl (fun _ => 0))), ((u_5 1), .inl (cI, 6, .inl (fun _ => 0))), ((u_5 2), .inl (cJ, 6, .inr (.inl (fun _ => 0)))), ((u_5 3), .inl (cZ, 6, .inl (fun _ => 0))), ((u_5 4), .inl (cZ, 40, .inl (fun _ => 0))), ((u_5 5), .inl (cI, 40, .inl (fun _ => 0))), ((u_5 6), .inl (cI, 40, .inl (fun _ => 0))), ((u_5 7), .inl (cI, 40, .inl (fun _ => 0))), ((u_5 8), .inl (cI, 480, .inl (fun _ => 0))), ((u_5 9), .inl (cI, 480, .inl (fun _ => 0)))] := hD2
  replace hS := hS1
  clear hP2 hD2 hS1
  refine W.widen (k := 22) (n := 2310) (Nat.le_of_ble_eq_true rfl) (Nat.le_of_ble_eq_true rfl) ?_
  refine va_putF (D := (dC, dI)) (ci := 1) (v := .ref q_4) (ty := .object "ArraySegments$Facts") (C := RX1) (T := TX1) (N := 8) hx hb hts inc_X1_init_X1 tyX1 tyX1_ok nmX1 hown hK hP hD hS 0 rfl rfl 1 (by decide) (hts (.fieldLink RX1 18 "ArraySegments$Flow" "ahead" "LArraySegments$Facts;") (List.mem_of_getElem? (i := 25) rfl)) (fun _ h9 => h9) rfl hin rfl (by decide +kernel) rfl rfl (Nat.le_of_ble_eq_true rfl) dX1_init_23 (fun H_6 locs_6 hP1 hD1 hS1 => ?_)
  replace hP : va_P (dC, dI) vwCl [(lh, .inr (1, [.ref q_1, .ref q_4, .int 0, .null, .null, .int 0, .int 0, .int 0])), (q_1, .inr (0, [.int 0, .ref (u_2 0), .ref (u_2 1), .ref (u_2 2), .ref (u_2 3), .ref (u_2 4), .ref (u_2 5), .ref (u_2 6), .ref (u_2 7), .ref (u_2 8), .ref (u_2 9)])), ((u_2 0), .inl (cI, 6, .inl (fun _ => 0))), ((u_2 1), .inl (cI, 6, .inl (fun _ => 0))), ((u_2 2), .inl (cJ, 6, .inr (.inl (fun _ => 0)))), ((u_2 3), .inl (cZ, 6, .inl (fun _ => 0))), ((u_2 4), .inl (cZ, 40, .inl (fun _ => 0))), ((u_2 5), .inl (cI, 40, .inl (fun _ => 0))), ((u_2 6), .inl (cI, 40, .inl (fun _ => 0))), ((u_2 7), .inl (cI, 40, .inl (fun _ => 0))), ((u_2 8), .inl (cI, 480, .inl (fun _ => 0))), ((u_2 9), .inl (cI, 480, .inl (fun _ => 0))), (q_4, .inr (0, [.int 0, .ref (u_5 0), .ref (u_5 1), .ref (u_5 2), .ref (u_5 3), .ref (u_5 4), .ref (u_5 5), .ref (u_5 6), .ref (u_5 7), .ref (u_5 8), .ref (u_5 9)])), ((u_5 0), .inl (cI, 6, .inl (fun _ => 0))), ((u_5 1), .inl (cI, 6, .inl (fun _ => 0))), ((u_5 2), .inl (cJ, 6, .inr (.inl (fun _ => 0)))), ((u_5 3), .inl (cZ, 6, .inl (fun _ => 0))), ((u_5 4), .inl (cZ, 40, .inl (fun _ => 0))), ((u_5 5), .inl (cI, 40, .inl (fun _ => 0))), ((u_5 6), .inl (cI, 40, .inl (fun _ => 0))), ((u_5 7), .inl (cI, 40, .inl (fun _ => 0))), ((u_5 8), .inl (cI, 480, .inl (fun _ => 0))), ((u_5 9), .inl (cI, 480, .inl (fun _ => 0)))] H_6 := hP1
  replace hD : va_D A [(lh, .inr (1, [.ref q_1, .ref q_4, .int 0, .null, .null, .int 0, .int 0, .int 0])), (q_1, .inr (0, [.int 0, .ref (u_2 0), .ref (u_2 1), .ref (u_2 2), .ref (u_2 3), .ref (u_2 4), .ref (u_2 5), .ref (u_2 6), .ref (u_2 7), .ref (u_2 8), .ref (u_2 9)])), ((u_2 0), .inl (cI, 6, .inl (fun _ => 0))), ((u_2 1), .inl (cI, 6, .inl (fun _ => 0))), ((u_2 2), .inl (cJ, 6, .inr (.inl (fun _ => 0)))), ((u_2 3), .inl (cZ, 6, .inl (fun _ => 0))), ((u_2 4), .inl (cZ, 40, .inl (fun _ => 0))), ((u_2 5), .inl (cI, 40, .inl (fun _ => 0))), ((u_2 6), .inl (cI, 40, .inl (fun _ => 0))), ((u_2 7), .inl (cI, 40, .inl (fun _ => 0))), ((u_2 8), .inl (cI, 480, .inl (fun _ => 0))), ((u_2 9), .inl (cI, 480, .inl (fun _ => 0))), (q_4, .inr (0, [.int 0, .ref (u_5 0), .ref (u_5 1), .ref (u_5 2), .ref (u_5 3), .ref (u_5 4), .ref (u_5 5), .ref (u_5 6), .ref (u_5 7), .ref (u_5 8), .ref (u_5 9)])), ((u_5 0), .inl (cI, 6, .inl (fun _ => 0))), ((u_5 1), .inl (cI, 6, .inl (fun _ => 0))), ((u_5 2), .inl (cJ, 6, .inr (.inl (fun _ => 0)))), ((u_5 3), .inl (cZ, 6, .inl (fun _ => 0))), ((u_5 4), .inl (cZ, 40, .inl (fun _ => 0))), ((u_5 5), .inl (cI, 40, .inl (fun _ => 0))), ((u_5 6), .inl (cI, 40, .inl (fun _ => 0))), ((u_5 7), .inl (cI, 40, .inl (fun _ => 0))), ((u_5 8), .inl (cI, 480, .inl (fun _ => 0))), ((u_5 9), .inl (cI, 480, .inl (fun _ => 0)))] := hD1
  replace hS := hS1
  clear hP1 hD1 hS1
  refine lv_aload_n hx hb dX1_init_26 rfl (lv_at hl 0 rfl) ?_
  refine lv_iconst (v := 1) hx hb dX1_init_27 (by decide) ?_
  refine va_put (D := (dC, dI)) (ci := 1) (v := .int 1) (ty := .boolean) (C := RX1) (T := TX1) (N := 8) hx hb hts inc_X1_init_X1 tyX1 tyX1_ok nmX1 hown hK hP hD hS 0 rfl rfl 2 (by decide) (hts (.fieldLink RX1 21 "ArraySegments$Flow" "isOld" "Z") (List.mem_of_getElem? (i := 26) rfl)) (fun _ h9 => h9) rfl (by decide +kernel) rfl rfl (Nat.le_of_ble_eq_true rfl) dX1_init_28 (fun H_7 locs_7 hP1 hD1 hS1 => ?_)
  replace hP : va_P (dC, dI) vwCl [(lh, .inr (1, [.ref q_1, .ref q_4, .int 1, .null, .null, .int 0, .int 0, .int 0])), (q_1, .inr (0, [.int 0, .ref (u_2 0), .ref (u_2 1), .ref (u_2 2), .ref (u_2 3), .ref (u_2 4), .ref (u_2 5), .ref (u_2 6), .ref (u_2 7), .ref (u_2 8), .ref (u_2 9)])), ((u_2 0), .inl (cI, 6, .inl (fun _ => 0))), ((u_2 1), .inl (cI, 6, .inl (fun _ => 0))), ((u_2 2), .inl (cJ, 6, .inr (.inl (fun _ => 0)))), ((u_2 3), .inl (cZ, 6, .inl (fun _ => 0))), ((u_2 4), .inl (cZ, 40, .inl (fun _ => 0))), ((u_2 5), .inl (cI, 40, .inl (fun _ => 0))), ((u_2 6), .inl (cI, 40, .inl (fun _ => 0))), ((u_2 7), .inl (cI, 40, .inl (fun _ => 0))), ((u_2 8), .inl (cI, 480, .inl (fun _ => 0))), ((u_2 9), .inl (cI, 480, .inl (fun _ => 0))), (q_4, .inr (0, [.int 0, .ref (u_5 0), .ref (u_5 1), .ref (u_5 2), .ref (u_5 3), .ref (u_5 4), .ref (u_5 5), .ref (u_5 6), .ref (u_5 7), .ref (u_5 8), .ref (u_5 9)])), ((u_5 0), .inl (cI, 6, .inl (fun _ => 0))), ((u_5 1), .inl (cI, 6, .inl (fun _ => 0))), ((u_5 2), .inl (cJ, 6, .inr (.inl (fun _ => 0)))), ((u_5 3), .inl (cZ, 6, .inl (fun _ => 0))), ((u_5 4), .inl (cZ, 40, .inl (fun _ => 0))), ((u_5 5), .inl (cI, 40, .inl (fun _ => 0))), ((u_5 6), .inl (cI, 40, .inl (fun _ => 0))), ((u_5 7), .inl (cI, 40, .inl (fun _ => 0))), ((u_5 8), .inl (cI, 480, .inl (fun _ => 0))), ((u_5 9), .inl (cI, 480, .inl (fun _ => 0)))] H_7 := hP1
  replace hD : va_D A [(lh, .inr (1, [.ref q_1, .ref q_4, .int 1, .null, .null, .int 0, .int 0, .int 0])), (q_1, .inr (0, [.int 0, .ref (u_2 0), .ref (u_2 1), .ref (u_2 2), .ref (u_2 3), .ref (u_2 4), .ref (u_2 5), .ref (u_2 6), .ref (u_2 7), .ref (u_2 8), .ref (u_2 9)])), ((u_2 0), .inl (cI, 6, .inl (fun _ => 0))), ((u_2 1), .inl (cI, 6, .inl (fun _ => 0))), ((u_2 2), .inl (cJ, 6, .inr (.inl (fun _ => 0)))), ((u_2 3), .inl (cZ, 6, .inl (fun _ => 0))), ((u_2 4), .inl (cZ, 40, .inl (fun _ => 0))), ((u_2 5), .inl (cI, 40, .inl (fun _ => 0))), ((u_2 6), .inl (cI, 40, .inl (fun _ => 0))), ((u_2 7), .inl (cI, 40, .inl (fun _ => 0))), ((u_2 8), .inl (cI, 480, .inl (fun _ => 0))), ((u_2 9), .inl (cI, 480, .inl (fun _ => 0))), (q_4, .inr (0, [.int 0, .ref (u_5 0), .ref (u_5 1), .ref (u_5 2), .ref (u_5 3), .ref (u_5 4), .ref (u_5 5), .ref (u_5 6), .ref (u_5 7), .ref (u_5 8), .ref (u_5 9)])), ((u_5 0), .inl (cI, 6, .inl (fun _ => 0))), ((u_5 1), .inl (cI, 6, .inl (fun _ => 0))), ((u_5 2), .inl (cJ, 6, .inr (.inl (fun _ => 0)))), ((u_5 3), .inl (cZ, 6, .inl (fun _ => 0))), ((u_5 4), .inl (cZ, 40, .inl (fun _ => 0))), ((u_5 5), .inl (cI, 40, .inl (fun _ => 0))), ((u_5 6), .inl (cI, 40, .inl (fun _ => 0))), ((u_5 7), .inl (cI, 40, .inl (fun _ => 0))), ((u_5 8), .inl (cI, 480, .inl (fun _ => 0))), ((u_5 9), .inl (cI, 480, .inl (fun _ => 0)))] := hD1
  replace hS := hS1
  clear hP1 hD1 hS1
  refine lv_aload_n hx hb dX1_init_31 rfl (lv_at hl 0 rfl) ?_
  refine lv_bipush (v := 40) hx hb dX1_init_32 (by decide) ?_
  refine my_newaZ hx hb (hts (.arrayClass .boolean) (List.mem_of_getElem? (i := 15) rfl)) hK hP hD hS hA (N' := 40) (by decide) (by decide) (by decide) (Nat.le_of_ble_eq_true rfl) (Nat.le_of_ble_eq_true rfl) dX1_init_34 (fun q_8 H_8 hP1 hD1 hS1 => ?_)
  replace hP : va_P (dC, dI) vwCl [(lh, .inr (1, [.ref q_1, .ref q_4, .int 1, .null, .null, .int 0, .int 0, .int 0])), (q_1, .inr (0, [.int 0, .ref (u_2 0), .ref (u_2 1), .ref (u_2 2), .ref (u_2 3), .ref (u_2 4), .ref (u_2 5), .ref (u_2 6), .ref (u_2 7), .ref (u_2 8), .ref (u_2 9)])), ((u_2 0), .inl (cI, 6, .inl (fun _ => 0))), ((u_2 1), .inl (cI, 6, .inl (fun _ => 0))), ((u_2 2), .inl (cJ, 6, .inr (.inl (fun _ => 0)))), ((u_2 3), .inl (cZ, 6, .inl (fun _ => 0))), ((u_2 4), .inl (cZ, 40, .inl (fun _ => 0))), ((u_2 5), .inl (cI, 40, .inl (fun _ => 0))), ((u_2 6), .inl (cI, 40, .inl (fun _ => 0))), ((u_2 7), .inl (cI, 40, .inl (fun _ => 0))), ((u_2 8), .inl (cI, 480, .inl (fun _ => 0))), ((u_2 9), .inl (cI, 480, .inl (fun _ => 0))), (q_4, .inr (0, [.int 0, .ref (u_5 0), .ref (u_5 1), .ref (u_5 2), .ref (u_5 3), .ref (u_5 4), .ref (u_5 5), .ref (u_5 6), .ref (u_5 7), .ref (u_5 8), .ref (u_5 9)])), ((u_5 0), .inl (cI, 6, .inl (fun _ => 0))), ((u_5 1), .inl (cI, 6, .inl (fun _ => 0))), ((u_5 2), .inl (cJ, 6, .inr (.inl (fun _ => 0)))), ((u_5 3), .inl (cZ, 6, .inl (fun _ => 0))), ((u_5 4), .inl (cZ, 40, .inl (fun _ => 0))), ((u_5 5), .inl (cI, 40, .inl (fun _ => 0))), ((u_5 6), .inl (cI, 40, .inl (fun _ => 0))), ((u_5 7), .inl (cI, 40, .inl (fun _ => 0))), ((u_5 8), .inl (cI, 480, .inl (fun _ => 0))), ((u_5 9), .inl (cI, 480, .inl (fun _ => 0))), (q_8, .inl (cZ, 40, .inl (fun _ => 0)))] H_8 := hP1
  replace hD : va_D A [(lh, .inr (1, [.ref q_1, .ref q_4, .int 1, .null, .null, .int 0, .int 0, .int 0])), (q_1, .inr (0, [.int 0, .ref (u_2 0), .ref (u_2 1), .ref (u_2 2), .ref (u_2 3), .ref (u_2 4), .ref (u_2 5), .ref (u_2 6), .ref (u_2 7), .ref (u_2 8), .ref (u_2 9)])), ((u_2 0), .inl (cI, 6, .inl (fun _ => 0))), ((u_2 1), .inl (cI, 6, .inl (fun _ => 0))), ((u_2 2), .inl (cJ, 6, .inr (.inl (fun _ => 0)))), ((u_2 3), .inl (cZ, 6, .inl (fun _ => 0))), ((u_2 4), .inl (cZ, 40, .inl (fun _ => 0))), ((u_2 5), .inl (cI, 40, .inl (fun _ => 0))), ((u_2 6), .inl (cI, 40, .inl (fun _ => 0))), ((u_2 7), .inl (cI, 40, .inl (fun _ => 0))), ((u_2 8), .inl (cI, 480, .inl (fun _ => 0))), ((u_2 9), .inl (cI, 480, .inl (fun _ => 0))), (q_4, .inr (0, [.int 0, .ref (u_5 0), .ref (u_5 1), .ref (u_5 2), .ref (u_5 3), .ref (u_5 4), .ref (u_5 5), .ref (u_5 6), .ref (u_5 7), .ref (u_5 8), .ref (u_5 9)])), ((u_5 0), .inl (cI, 6, .inl (fun _ => 0))), ((u_5 1), .inl (cI, 6, .inl (fun _ => 0))), ((u_5 2), .inl (cJ, 6, .inr (.inl (fun _ => 0)))), ((u_5 3), .inl (cZ, 6, .inl (fun _ => 0))), ((u_5 4), .inl (cZ, 40, .inl (fun _ => 0))), ((u_5 5), .inl (cI, 40, .inl (fun _ => 0))), ((u_5 6), .inl (cI, 40, .inl (fun _ => 0))), ((u_5 7), .inl (cI, 40, .inl (fun _ => 0))), ((u_5 8), .inl (cI, 480, .inl (fun _ => 0))), ((u_5 9), .inl (cI, 480, .inl (fun _ => 0))), (q_8, .inl (cZ, 40, .inl (fun _ => 0)))] := hD1
  replace hS := hS1
  clear hP1 hD1 hS1
  refine W.widen (k := 23) (n := 2350) (Nat.le_of_ble_eq_true rfl) (Nat.le_of_ble_eq_true rfl) ?_
  refine va_putF (D := (dC, dI)) (ci := 1) (v := .ref q_8) (ty := .array .boolean) (C := RX1) (T := TX1) (N := 8) hx hb hts inc_X1_init_X1 tyX1 tyX1_ok nmX1 hown hK hP hD hS 0 rfl rfl 3 (by decide) (hts (.fieldLink RX1 25 "ArraySegments$Flow" "isReached" "[Z") (List.mem_of_getElem? (i := 27) rfl)) (fun _ h9 => h9) rfl hin rfl (by decide +kernel) rfl rfl (Nat.le_of_ble_eq_true rfl) dX1_init_36 (fun H_9 locs_9 hP1 hD1 hS1 => ?_)
  replace hP : va_P (dC, dI) vwCl [(lh, .inr (1, [.ref q_1, .ref q_4, .int 1, .ref q_8, .null, .int 0, .int 0, .int 0])), (q_1, .inr (0, [.int 0, .ref (u_2 0), .ref (u_2 1), .ref (u_2 2), .ref (u_2 3), .ref (u_2 4), .ref (u_2 5), .ref (u_2 6), .ref (u_2 7), .ref (u_2 8), .ref (u_2 9)])), ((u_2 0), .inl (cI, 6, .inl (fun _ => 0))), ((u_2 1), .inl (cI, 6, .inl (fun _ => 0))), ((u_2 2), .inl (cJ, 6, .inr (.inl (fun _ => 0)))), ((u_2 3), .inl (cZ, 6, .inl (fun _ => 0))), ((u_2 4), .inl (cZ, 40, .inl (fun _ => 0))), ((u_2 5), .inl (cI, 40, .inl (fun _ => 0))), ((u_2 6), .inl (cI, 40, .inl (fun _ => 0))), ((u_2 7), .inl (cI, 40, .inl (fun _ => 0))), ((u_2 8), .inl (cI, 480, .inl (fun _ => 0))), ((u_2 9), .inl (cI, 480, .inl (fun _ => 0))), (q_4, .inr (0, [.int 0, .ref (u_5 0), .ref (u_5 1), .ref (u_5 2), .ref (u_5 3), .ref (u_5 4), .ref (u_5 5), .ref (u_5 6), .ref (u_5 7), .ref (u_5 8), .ref (u_5 9)])), ((u_5 0), .inl (cI, 6, .inl (fun _ => 0))), ((u_5 1), .inl (cI, 6, .inl (fun _ => 0))), ((u_5 2), .inl (cJ, 6, .inr (.inl (fun _ => 0)))), ((u_5 3), .inl (cZ, 6, .inl (fun _ => 0))), ((u_5 4), .inl (cZ, 40, .inl (fun _ => 0))), ((u_5 5), .inl (cI, 40, .inl (fun _ => 0))), ((u_5 6), .inl (cI, 40, .inl (fun _ => 0))), ((u_5 7), .inl (cI, 40, .inl (fun _ => 0))), ((u_5 8), .inl (cI, 480, .inl (fun _ => 0))), ((u_5 9), .inl (cI, 480, .inl (fun _ => 0))), (q_8, .inl (cZ, 40, .inl (fun _ => 0)))] H_9 := hP1
  replace hD : va_D A [(lh, .inr (1, [.ref q_1, .ref q_4, .int 1, .ref q_8, .null, .int 0, .int 0, .int 0])), (q_1, .inr (0, [.int 0, .ref (u_2 0), .ref (u_2 1), .ref (u_2 2), .ref (u_2 3), .ref (u_2 4), .ref (u_2 5), .ref (u_2 6), .ref (u_2 7), .ref (u_2 8), .ref (u_2 9)])), ((u_2 0), .inl (cI, 6, .inl (fun _ => 0))), ((u_2 1), .inl (cI, 6, .inl (fun _ => 0))), ((u_2 2), .inl (cJ, 6, .inr (.inl (fun _ => 0)))), ((u_2 3), .inl (cZ, 6, .inl (fun _ => 0))), ((u_2 4), .inl (cZ, 40, .inl (fun _ => 0))), ((u_2 5), .inl (cI, 40, .inl (fun _ => 0))), ((u_2 6), .inl (cI, 40, .inl (fun _ => 0))), ((u_2 7), .inl (cI, 40, .inl (fun _ => 0))), ((u_2 8), .inl (cI, 480, .inl (fun _ => 0))), ((u_2 9), .inl (cI, 480, .inl (fun _ => 0))), (q_4, .inr (0, [.int 0, .ref (u_5 0), .ref (u_5 1), .ref (u_5 2), .ref (u_5 3), .ref (u_5 4), .ref (u_5 5), .ref (u_5 6), .ref (u_5 7), .ref (u_5 8), .ref (u_5 9)])), ((u_5 0), .inl (cI, 6, .inl (fun _ => 0))), ((u_5 1), .inl (cI, 6, .inl (fun _ => 0))), ((u_5 2), .inl (cJ, 6, .inr (.inl (fun _ => 0)))), ((u_5 3), .inl (cZ, 6, .inl (fun _ => 0))), ((u_5 4), .inl (cZ, 40, .inl (fun _ => 0))), ((u_5 5), .inl (cI, 40, .inl (fun _ => 0))), ((u_5 6), .inl (cI, 40, .inl (fun _ => 0))), ((u_5 7), .inl (cI, 40, .inl (fun _ => 0))), ((u_5 8), .inl (cI, 480, .inl (fun _ => 0))), ((u_5 9), .inl (cI, 480, .inl (fun _ => 0))), (q_8, .inl (cZ, 40, .inl (fun _ => 0)))] := hD1
  replace hS := hS1
  clear hP1 hD1 hS1
  refine lv_aload_n hx hb dX1_init_39 rfl (lv_at hl 0 rfl) ?_
  refine lv_bipush (v := 40) hx hb dX1_init_40 (by decide) ?_
  refine my_newaI hx hb (hts (.arrayClass .int) (List.mem_of_getElem? (i := 10) rfl)) hK hP hD hS hA (N' := 40) (by decide) (by decide) (by decide) (Nat.le_of_ble_eq_true rfl) (Nat.le_of_ble_eq_true rfl) dX1_init_42 (fun q_10 H_10 hP1 hD1 hS1 => ?_)
  replace hP : va_P (dC, dI) vwCl [(lh, .inr (1, [.ref q_1, .ref q_4, .int 1, .ref q_8, .null, .int 0, .int 0, .int 0])), (q_1, .inr (0, [.int 0, .ref (u_2 0), .ref (u_2 1), .ref (u_2 2), .ref (u_2 3), .ref (u_2 4), .ref (u_2 5), .ref (u_2 6), .ref (u_2 7), .ref (u_2 8), .ref (u_2 9)])), ((u_2 0), .inl (cI, 6, .inl (fun _ => 0))), ((u_2 1), .inl (cI, 6, .inl (fun _ => 0))), ((u_2 2), .inl (cJ, 6, .inr (.inl (fun _ => 0)))), ((u_2 3), .inl (cZ, 6, .inl (fun _ => 0))), ((u_2 4), .inl (cZ, 40, .inl (fun _ => 0))), ((u_2 5), .inl (cI, 40, .inl (fun _ => 0))), ((u_2 6), .inl (cI, 40, .inl (fun _ => 0))), ((u_2 7), .inl (cI, 40, .inl (fun _ => 0))), ((u_2 8), .inl (cI, 480, .inl (fun _ => 0))), ((u_2 9), .inl (cI, 480, .inl (fun _ => 0))), (q_4, .inr (0, [.int 0, .ref (u_5 0), .ref (u_5 1), .ref (u_5 2), .ref (u_5 3), .ref (u_5 4), .ref (u_5 5), .ref (u_5 6), .ref (u_5 7), .ref (u_5 8), .ref (u_5 9)])), ((u_5 0), .inl (cI, 6, .inl (fun _ => 0))), ((u_5 1), .inl (cI, 6, .inl (fun _ => 0))), ((u_5 2), .inl (cJ, 6, .inr (.inl (fun _ => 0)))), ((u_5 3), .inl (cZ, 6, .inl (fun _ => 0))), ((u_5 4), .inl (cZ, 40, .inl (fun _ => 0))), ((u_5 5), .inl (cI, 40, .inl (fun _ => 0))), ((u_5 6), .inl (cI, 40, .inl (fun _ => 0))), ((u_5 7), .inl (cI, 40, .inl (fun _ => 0))), ((u_5 8), .inl (cI, 480, .inl (fun _ => 0))), ((u_5 9), .inl (cI, 480, .inl (fun _ => 0))), (q_8, .inl (cZ, 40, .inl (fun _ => 0))), (q_10, .inl (cI, 40, .inl (fun _ => 0)))] H_10 := hP1
  replace hD : va_D A [(lh, .inr (1, [.ref q_1, .ref q_4, .int 1, .ref q_8, .null, .int 0, .int 0, .int 0])), (q_1, .inr (0, [.int 0, .ref (u_2 0), .ref (u_2 1), .ref (u_2 2), .ref (u_2 3), .ref (u_2 4), .ref (u_2 5), .ref (u_2 6), .ref (u_2 7), .ref (u_2 8), .ref (u_2 9)])), ((u_2 0), .inl (cI, 6, .inl (fun _ => 0))), ((u_2 1), .inl (cI, 6, .inl (fun _ => 0))), ((u_2 2), .inl (cJ, 6, .inr (.inl (fun _ => 0)))), ((u_2 3), .inl (cZ, 6, .inl (fun _ => 0))), ((u_2 4), .inl (cZ, 40, .inl (fun _ => 0))), ((u_2 5), .inl (cI, 40, .inl (fun _ => 0))), ((u_2 6), .inl (cI, 40, .inl (fun _ => 0))), ((u_2 7), .inl (cI, 40, .inl (fun _ => 0))), ((u_2 8), .inl (cI, 480, .inl (fun _ => 0))), ((u_2 9), .inl (cI, 480, .inl (fun _ => 0))), (q_4, .inr (0, [.int 0, .ref (u_5 0), .ref (u_5 1), .ref (u_5 2), .ref (u_5 3), .ref (u_5 4), .ref (u_5 5), .ref (u_5 6), .ref (u_5 7), .ref (u_5 8), .ref (u_5 9)])), ((u_5 0), .inl (cI, 6, .inl (fun _ => 0))), ((u_5 1), .inl (cI, 6, .inl (fun _ => 0))), ((u_5 2), .inl (cJ, 6, .inr (.inl (fun _ => 0)))), ((u_5 3), .inl (cZ, 6, .inl (fun _ => 0))), ((u_5 4), .inl (cZ, 40, .inl (fun _ => 0))), ((u_5 5), .inl (cI, 40, .inl (fun _ => 0))), ((u_5 6), .inl (cI, 40, .inl (fun _ => 0))), ((u_5 7), .inl (cI, 40, .inl (fun _ => 0))), ((u_5 8), .inl (cI, 480, .inl (fun _ => 0))), ((u_5 9), .inl (cI, 480, .inl (fun _ => 0))), (q_8, .inl (cZ, 40, .inl (fun _ => 0))), (q_10, .inl (cI, 40, .inl (fun _ => 0)))] := hD1
  replace hS := hS1
  clear hP1 hD1 hS1
  refine W.widen (k := 24) (n := 2390) (Nat.le_of_ble_eq_true rfl) (Nat.le_of_ble_eq_true rfl) ?_
  refine va_putF (D := (dC, dI)) (ci := 1) (v := .ref q_10) (ty := .array .int) (C := RX1) (T := TX1) (N := 8) hx hb hts inc_X1_init_X1 tyX1 tyX1_ok nmX1 hown hK hP hD hS 0 rfl rfl 4 (by decide) (hts (.fieldLink RX1 29 "ArraySegments$Flow" "mayThrow" "[I") (List.mem_of_getElem? (i := 28) rfl)) (fun _ h9 => h9) rfl hin rfl (by decide +kernel) rfl rfl (Nat.le_of_ble_eq_true rfl) dX1_init_44 (fun H_11 locs_11 hP1 hD1 hS1 => ?_)
  replace hP : va_P (dC, dI) vwCl [(lh, .inr (1, [.ref q_1, .ref q_4, .int 1, .ref q_8, .ref q_10, .int 0, .int 0, .int 0])), (q_1, .inr (0, [.int 0, .ref (u_2 0), .ref (u_2 1), .ref (u_2 2), .ref (u_2 3), .ref (u_2 4), .ref (u_2 5), .ref (u_2 6), .ref (u_2 7), .ref (u_2 8), .ref (u_2 9)])), ((u_2 0), .inl (cI, 6, .inl (fun _ => 0))), ((u_2 1), .inl (cI, 6, .inl (fun _ => 0))), ((u_2 2), .inl (cJ, 6, .inr (.inl (fun _ => 0)))), ((u_2 3), .inl (cZ, 6, .inl (fun _ => 0))), ((u_2 4), .inl (cZ, 40, .inl (fun _ => 0))), ((u_2 5), .inl (cI, 40, .inl (fun _ => 0))), ((u_2 6), .inl (cI, 40, .inl (fun _ => 0))), ((u_2 7), .inl (cI, 40, .inl (fun _ => 0))), ((u_2 8), .inl (cI, 480, .inl (fun _ => 0))), ((u_2 9), .inl (cI, 480, .inl (fun _ => 0))), (q_4, .inr (0, [.int 0, .ref (u_5 0), .ref (u_5 1), .ref (u_5 2), .ref (u_5 3), .ref (u_5 4), .ref (u_5 5), .ref (u_5 6), .ref (u_5 7), .ref (u_5 8), .ref (u_5 9)])), ((u_5 0), .inl (cI, 6, .inl (fun _ => 0))), ((u_5 1), .inl (cI, 6, .inl (fun _ => 0))), ((u_5 2), .inl (cJ, 6, .inr (.inl (fun _ => 0)))), ((u_5 3), .inl (cZ, 6, .inl (fun _ => 0))), ((u_5 4), .inl (cZ, 40, .inl (fun _ => 0))), ((u_5 5), .inl (cI, 40, .inl (fun _ => 0))), ((u_5 6), .inl (cI, 40, .inl (fun _ => 0))), ((u_5 7), .inl (cI, 40, .inl (fun _ => 0))), ((u_5 8), .inl (cI, 480, .inl (fun _ => 0))), ((u_5 9), .inl (cI, 480, .inl (fun _ => 0))), (q_8, .inl (cZ, 40, .inl (fun _ => 0))), (q_10, .inl (cI, 40, .inl (fun _ => 0)))] H_11 := hP1
  replace hD : va_D A [(lh, .inr (1, [.ref q_1, .ref q_4, .int 1, .ref q_8, .ref q_10, .int 0, .int 0, .int 0])), (q_1, .inr (0, [.int 0, .ref (u_2 0), .ref (u_2 1), .ref (u_2 2), .ref (u_2 3), .ref (u_2 4), .ref (u_2 5), .ref (u_2 6), .ref (u_2 7), .ref (u_2 8), .ref (u_2 9)])), ((u_2 0), .inl (cI, 6, .inl (fun _ => 0))), ((u_2 1), .inl (cI, 6, .inl (fun _ => 0))), ((u_2 2), .inl (cJ, 6, .inr (.inl (fun _ => 0)))), ((u_2 3), .inl (cZ, 6, .inl (fun _ => 0))), ((u_2 4), .inl (cZ, 40, .inl (fun _ => 0))), ((u_2 5), .inl (cI, 40, .inl (fun _ => 0))), ((u_2 6), .inl (cI, 40, .inl (fun _ => 0))), ((u_2 7), .inl (cI, 40, .inl (fun _ => 0))), ((u_2 8), .inl (cI, 480, .inl (fun _ => 0))), ((u_2 9), .inl (cI, 480, .inl (fun _ => 0))), (q_4, .inr (0, [.int 0, .ref (u_5 0), .ref (u_5 1), .ref (u_5 2), .ref (u_5 3), .ref (u_5 4), .ref (u_5 5), .ref (u_5 6), .ref (u_5 7), .ref (u_5 8), .ref (u_5 9)])), ((u_5 0), .inl (cI, 6, .inl (fun _ => 0))), ((u_5 1), .inl (cI, 6, .inl (fun _ => 0))), ((u_5 2), .inl (cJ, 6, .inr (.inl (fun _ => 0)))), ((u_5 3), .inl (cZ, 6, .inl (fun _ => 0))), ((u_5 4), .inl (cZ, 40, .inl (fun _ => 0))), ((u_5 5), .inl (cI, 40, .inl (fun _ => 0))), ((u_5 6), .inl (cI, 40, .inl (fun _ => 0))), ((u_5 7), .inl (cI, 40, .inl (fun _ => 0))), ((u_5 8), .inl (cI, 480, .inl (fun _ => 0))), ((u_5 9), .inl (cI, 480, .inl (fun _ => 0))), (q_8, .inl (cZ, 40, .inl (fun _ => 0))), (q_10, .inl (cI, 40, .inl (fun _ => 0)))] := hD1
  replace hS := hS1
  clear hP1 hD1 hS1
  refine lv_aload_n hx hb dX1_init_47 rfl (lv_at hl 0 rfl) ?_
  refine lv_iconst (v := 0) hx hb dX1_init_48 (by decide) ?_
  refine va_put (D := (dC, dI)) (ci := 1) (v := .int 0) (ty := .boolean) (C := RX1) (T := TX1) (N := 8) hx hb hts inc_X1_init_X1 tyX1 tyX1_ok nmX1 hown hK hP hD hS 0 rfl rfl 5 (by decide) (hts (.fieldLink RX1 33 "ArraySegments$Flow" "gatheredAny" "Z") (List.mem_of_getElem? (i := 29) rfl)) (fun _ h9 => h9) rfl (by decide +kernel) rfl rfl (Nat.le_of_ble_eq_true rfl) dX1_init_49 (fun H_12 locs_12 hP1 hD1 hS1 => ?_)
  replace hP : va_P (dC, dI) vwCl [(lh, .inr (1, [.ref q_1, .ref q_4, .int 1, .ref q_8, .ref q_10, .int 0, .int 0, .int 0])), (q_1, .inr (0, [.int 0, .ref (u_2 0), .ref (u_2 1), .ref (u_2 2), .ref (u_2 3), .ref (u_2 4), .ref (u_2 5), .ref (u_2 6), .ref (u_2 7), .ref (u_2 8), .ref (u_2 9)])), ((u_2 0), .inl (cI, 6, .inl (fun _ => 0))), ((u_2 1), .inl (cI, 6, .inl (fun _ => 0))), ((u_2 2), .inl (cJ, 6, .inr (.inl (fun _ => 0)))), ((u_2 3), .inl (cZ, 6, .inl (fun _ => 0))), ((u_2 4), .inl (cZ, 40, .inl (fun _ => 0))), ((u_2 5), .inl (cI, 40, .inl (fun _ => 0))), ((u_2 6), .inl (cI, 40, .inl (fun _ => 0))), ((u_2 7), .inl (cI, 40, .inl (fun _ => 0))), ((u_2 8), .inl (cI, 480, .inl (fun _ => 0))), ((u_2 9), .inl (cI, 480, .inl (fun _ => 0))), (q_4, .inr (0, [.int 0, .ref (u_5 0), .ref (u_5 1), .ref (u_5 2), .ref (u_5 3), .ref (u_5 4), .ref (u_5 5), .ref (u_5 6), .ref (u_5 7), .ref (u_5 8), .ref (u_5 9)])), ((u_5 0), .inl (cI, 6, .inl (fun _ => 0))), ((u_5 1), .inl (cI, 6, .inl (fun _ => 0))), ((u_5 2), .inl (cJ, 6, .inr (.inl (fun _ => 0)))), ((u_5 3), .inl (cZ, 6, .inl (fun _ => 0))), ((u_5 4), .inl (cZ, 40, .inl (fun _ => 0))), ((u_5 5), .inl (cI, 40, .inl (fun _ => 0))), ((u_5 6), .inl (cI, 40, .inl (fun _ => 0))), ((u_5 7), .inl (cI, 40, .inl (fun _ => 0))), ((u_5 8), .inl (cI, 480, .inl (fun _ => 0))), ((u_5 9), .inl (cI, 480, .inl (fun _ => 0))), (q_8, .inl (cZ, 40, .inl (fun _ => 0))), (q_10, .inl (cI, 40, .inl (fun _ => 0)))] H_12 := hP1
  replace hD : va_D A [(lh, .inr (1, [.ref q_1, .ref q_4, .int 1, .ref q_8, .ref q_10, .int 0, .int 0, .int 0])), (q_1, .inr (0, [.int 0, .ref (u_2 0), .ref (u_2 1), .ref (u_2 2), .ref (u_2 3), .ref (u_2 4), .ref (u_2 5), .ref (u_2 6), .ref (u_2 7), .ref (u_2 8), .ref (u_2 9)])), ((u_2 0), .inl (cI, 6, .inl (fun _ => 0))), ((u_2 1), .inl (cI, 6, .inl (fun _ => 0))), ((u_2 2), .inl (cJ, 6, .inr (.inl (fun _ => 0)))), ((u_2 3), .inl (cZ, 6, .inl (fun _ => 0))), ((u_2 4), .inl (cZ, 40, .inl (fun _ => 0))), ((u_2 5), .inl (cI, 40, .inl (fun _ => 0))), ((u_2 6), .inl (cI, 40, .inl (fun _ => 0))), ((u_2 7), .inl (cI, 40, .inl (fun _ => 0))), ((u_2 8), .inl (cI, 480, .inl (fun _ => 0))), ((u_2 9), .inl (cI, 480, .inl (fun _ => 0))), (q_4, .inr (0, [.int 0, .ref (u_5 0), .ref (u_5 1), .ref (u_5 2), .ref (u_5 3), .ref (u_5 4), .ref (u_5 5), .ref (u_5 6), .ref (u_5 7), .ref (u_5 8), .ref (u_5 9)])), ((u_5 0), .inl (cI, 6, .inl (fun _ => 0))), ((u_5 1), .inl (cI, 6, .inl (fun _ => 0))), ((u_5 2), .inl (cJ, 6, .inr (.inl (fun _ => 0)))), ((u_5 3), .inl (cZ, 6, .inl (fun _ => 0))), ((u_5 4), .inl (cZ, 40, .inl (fun _ => 0))), ((u_5 5), .inl (cI, 40, .inl (fun _ => 0))), ((u_5 6), .inl (cI, 40, .inl (fun _ => 0))), ((u_5 7), .inl (cI, 40, .inl (fun _ => 0))), ((u_5 8), .inl (cI, 480, .inl (fun _ => 0))), ((u_5 9), .inl (cI, 480, .inl (fun _ => 0))), (q_8, .inl (cZ, 40, .inl (fun _ => 0))), (q_10, .inl (cI, 40, .inl (fun _ => 0)))] := hD1
  replace hS := hS1
  clear hP1 hD1 hS1
  refine lv_aload_n hx hb dX1_init_52 rfl (lv_at hl 0 rfl) ?_
  refine lv_iconst (v := 0) hx hb dX1_init_53 (by decide) ?_
  refine va_put (D := (dC, dI)) (ci := 1) (v := .int 0) (ty := .int) (C := RX1) (T := TX1) (N := 8) hx hb hts inc_X1_init_X1 tyX1 tyX1_ok nmX1 hown hK hP hD hS 0 rfl rfl 6 (by decide) (hts (.fieldLink RX1 36 "ArraySegments$Flow" "gatheredLeast" "I") (List.mem_of_getElem? (i := 30) rfl)) (fun _ h9 => h9) rfl (by decide +kernel) rfl rfl (Nat.le_of_ble_eq_true rfl) dX1_init_54 (fun H_13 locs_13 hP1 hD1 hS1 => ?_)
  replace hP : va_P (dC, dI) vwCl [(lh, .inr (1, [.ref q_1, .ref q_4, .int 1, .ref q_8, .ref q_10, .int 0, .int 0, .int 0])), (q_1, .inr (0, [.int 0, .ref (u_2 0), .ref (u_2 1), .ref (u_2 2), .ref (u_2 3), .ref (u_2 4), .ref (u_2 5), .ref (u_2 6), .ref (u_2 7), .ref (u_2 8), .ref (u_2 9)])), ((u_2 0), .inl (cI, 6, .inl (fun _ => 0))), ((u_2 1), .inl (cI, 6, .inl (fun _ => 0))), ((u_2 2), .inl (cJ, 6, .inr (.inl (fun _ => 0)))), ((u_2 3), .inl (cZ, 6, .inl (fun _ => 0))), ((u_2 4), .inl (cZ, 40, .inl (fun _ => 0))), ((u_2 5), .inl (cI, 40, .inl (fun _ => 0))), ((u_2 6), .inl (cI, 40, .inl (fun _ => 0))), ((u_2 7), .inl (cI, 40, .inl (fun _ => 0))), ((u_2 8), .inl (cI, 480, .inl (fun _ => 0))), ((u_2 9), .inl (cI, 480, .inl (fun _ => 0))), (q_4, .inr (0, [.int 0, .ref (u_5 0), .ref (u_5 1), .ref (u_5 2), .ref (u_5 3), .ref (u_5 4), .ref (u_5 5), .ref (u_5 6), .ref (u_5 7), .ref (u_5 8), .ref (u_5 9)])), ((u_5 0), .inl (cI, 6, .inl (fun _ => 0))), ((u_5 1), .inl (cI, 6, .inl (fun _ => 0))), ((u_5 2), .inl (cJ, 6, .inr (.inl (fun _ => 0)))), ((u_5 3), .inl (cZ, 6, .inl (fun _ => 0))), ((u_5 4), .inl (cZ, 40, .inl (fun _ => 0))), ((u_5 5), .inl (cI, 40, .inl (fun _ => 0))), ((u_5 6), .inl (cI, 40, .inl (fun _ => 0))), ((u_5 7), .inl (cI, 40, .inl (fun _ => 0))), ((u_5 8), .inl (cI, 480, .inl (fun _ => 0))), ((u_5 9), .inl (cI, 480, .inl (fun _ => 0))), (q_8, .inl (cZ, 40, .inl (fun _ => 0))), (q_10, .inl (cI, 40, .inl (fun _ => 0)))] H_13 := hP1
  replace hD : va_D A [(lh, .inr (1, [.ref q_1, .ref q_4, .int 1, .ref q_8, .ref q_10, .int 0, .int 0, .int 0])), (q_1, .inr (0, [.int 0, .ref (u_2 0), .ref (u_2 1), .ref (u_2 2), .ref (u_2 3), .ref (u_2 4), .ref (u_2 5), .ref (u_2 6), .ref (u_2 7), .ref (u_2 8), .ref (u_2 9)])), ((u_2 0), .inl (cI, 6, .inl (fun _ => 0))), ((u_2 1), .inl (cI, 6, .inl (fun _ => 0))), ((u_2 2), .inl (cJ, 6, .inr (.inl (fun _ => 0)))), ((u_2 3), .inl (cZ, 6, .inl (fun _ => 0))), ((u_2 4), .inl (cZ, 40, .inl (fun _ => 0))), ((u_2 5), .inl (cI, 40, .inl (fun _ => 0))), ((u_2 6), .inl (cI, 40, .inl (fun _ => 0))), ((u_2 7), .inl (cI, 40, .inl (fun _ => 0))), ((u_2 8), .inl (cI, 480, .inl (fun _ => 0))), ((u_2 9), .inl (cI, 480, .inl (fun _ => 0))), (q_4, .inr (0, [.int 0, .ref (u_5 0), .ref (u_5 1), .ref (u_5 2), .ref (u_5 3), .ref (u_5 4), .ref (u_5 5), .ref (u_5 6), .ref (u_5 7), .ref (u_5 8), .ref (u_5 9)])), ((u_5 0), .inl (cI, 6, .inl (fun _ => 0))), ((u_5 1), .inl (cI, 6, .inl (fun _ => 0))), ((u_5 2), .inl (cJ, 6, .inr (.inl (fun _ => 0)))), ((u_5 3), .inl (cZ, 6, .inl (fun _ => 0))), ((u_5 4), .inl (cZ, 40, .inl (fun _ => 0))), ((u_5 5), .inl (cI, 40, .inl (fun _ => 0))), ((u_5 6), .inl (cI, 40, .inl (fun _ => 0))), ((u_5 7), .inl (cI, 40, .inl (fun _ => 0))), ((u_5 8), .inl (cI, 480, .inl (fun _ => 0))), ((u_5 9), .inl (cI, 480, .inl (fun _ => 0))), (q_8, .inl (cZ, 40, .inl (fun _ => 0))), (q_10, .inl (cI, 40, .inl (fun _ => 0)))] := hD1
  replace hS := hS1
  clear hP1 hD1 hS1
  refine lv_aload_n hx hb dX1_init_57 rfl (lv_at hl 0 rfl) ?_
  refine lv_iconst (v := 0) hx hb dX1_init_58 (by decide) ?_
  refine va_put (D := (dC, dI)) (ci := 1) (v := .int 0) (ty := .int) (C := RX1) (T := TX1) (N := 8) hx hb hts inc_X1_init_X1 tyX1 tyX1_ok nmX1 hown hK hP hD hS 0 rfl rfl 7 (by decide) (hts (.fieldLink RX1 40 "ArraySegments$Flow" "gatheredGreatest" "I") (List.mem_of_getElem? (i := 31) rfl)) (fun _ h9 => h9) rfl (by decide +kernel) rfl rfl (Nat.le_of_ble_eq_true rfl) dX1_init_59 (fun H_14 locs_14 hP1 hD1 hS1 => ?_)
  replace hP : va_P (dC, dI) vwCl [(lh, .inr (1, [.ref q_1, .ref q_4, .int 1, .ref q_8, .ref q_10, .int 0, .int 0, .int 0])), (q_1, .inr (0, [.int 0, .ref (u_2 0), .ref (u_2 1), .ref (u_2 2), .ref (u_2 3), .ref (u_2 4), .ref (u_2 5), .ref (u_2 6), .ref (u_2 7), .ref (u_2 8), .ref (u_2 9)])), ((u_2 0), .inl (cI, 6, .inl (fun _ => 0))), ((u_2 1), .inl (cI, 6, .inl (fun _ => 0))), ((u_2 2), .inl (cJ, 6, .inr (.inl (fun _ => 0)))), ((u_2 3), .inl (cZ, 6, .inl (fun _ => 0))), ((u_2 4), .inl (cZ, 40, .inl (fun _ => 0))), ((u_2 5), .inl (cI, 40, .inl (fun _ => 0))), ((u_2 6), .inl (cI, 40, .inl (fun _ => 0))), ((u_2 7), .inl (cI, 40, .inl (fun _ => 0))), ((u_2 8), .inl (cI, 480, .inl (fun _ => 0))), ((u_2 9), .inl (cI, 480, .inl (fun _ => 0))), (q_4, .inr (0, [.int 0, .ref (u_5 0), .ref (u_5 1), .ref (u_5 2), .ref (u_5 3), .ref (u_5 4), .ref (u_5 5), .ref (u_5 6), .ref (u_5 7), .ref (u_5 8), .ref (u_5 9)])), ((u_5 0), .inl (cI, 6, .inl (fun _ => 0))), ((u_5 1), .inl (cI, 6, .inl (fun _ => 0))), ((u_5 2), .inl (cJ, 6, .inr (.inl (fun _ => 0)))), ((u_5 3), .inl (cZ, 6, .inl (fun _ => 0))), ((u_5 4), .inl (cZ, 40, .inl (fun _ => 0))), ((u_5 5), .inl (cI, 40, .inl (fun _ => 0))), ((u_5 6), .inl (cI, 40, .inl (fun _ => 0))), ((u_5 7), .inl (cI, 40, .inl (fun _ => 0))), ((u_5 8), .inl (cI, 480, .inl (fun _ => 0))), ((u_5 9), .inl (cI, 480, .inl (fun _ => 0))), (q_8, .inl (cZ, 40, .inl (fun _ => 0))), (q_10, .inl (cI, 40, .inl (fun _ => 0)))] H_14 := hP1
  replace hD : va_D A [(lh, .inr (1, [.ref q_1, .ref q_4, .int 1, .ref q_8, .ref q_10, .int 0, .int 0, .int 0])), (q_1, .inr (0, [.int 0, .ref (u_2 0), .ref (u_2 1), .ref (u_2 2), .ref (u_2 3), .ref (u_2 4), .ref (u_2 5), .ref (u_2 6), .ref (u_2 7), .ref (u_2 8), .ref (u_2 9)])), ((u_2 0), .inl (cI, 6, .inl (fun _ => 0))), ((u_2 1), .inl (cI, 6, .inl (fun _ => 0))), ((u_2 2), .inl (cJ, 6, .inr (.inl (fun _ => 0)))), ((u_2 3), .inl (cZ, 6, .inl (fun _ => 0))), ((u_2 4), .inl (cZ, 40, .inl (fun _ => 0))), ((u_2 5), .inl (cI, 40, .inl (fun _ => 0))), ((u_2 6), .inl (cI, 40, .inl (fun _ => 0))), ((u_2 7), .inl (cI, 40, .inl (fun _ => 0))), ((u_2 8), .inl (cI, 480, .inl (fun _ => 0))), ((u_2 9), .inl (cI, 480, .inl (fun _ => 0))), (q_4, .inr (0, [.int 0, .ref (u_5 0), .ref (u_5 1), .ref (u_5 2), .ref (u_5 3), .ref (u_5 4), .ref (u_5 5), .ref (u_5 6), .ref (u_5 7), .ref (u_5 8), .ref (u_5 9)])), ((u_5 0), .inl (cI, 6, .inl (fun _ => 0))), ((u_5 1), .inl (cI, 6, .inl (fun _ => 0))), ((u_5 2), .inl (cJ, 6, .inr (.inl (fun _ => 0)))), ((u_5 3), .inl (cZ, 6, .inl (fun _ => 0))), ((u_5 4), .inl (cZ, 40, .inl (fun _ => 0))), ((u_5 5), .inl (cI, 40, .inl (fun _ => 0))), ((u_5 6), .inl (cI, 40, .inl (fun _ => 0))), ((u_5 7), .inl (cI, 40, .inl (fun _ => 0))), ((u_5 8), .inl (cI, 480, .inl (fun _ => 0))), ((u_5 9), .inl (cI, 480, .inl (fun _ => 0))), (q_8, .inl (cZ, 40, .inl (fun _ => 0))), (q_10, .inl (cI, 40, .inl (fun _ => 0)))] := hD1
  replace hS := hS1
  clear hP1 hD1 hS1
  have hP9 := hP.sub (ws' := [(lh, .inr (1, [.ref q_1, .ref q_4, .int 1, .ref q_8, .ref q_10, .int 0, .int 0, .int 0])), (q_1, .inr (0, [.int 0, .ref (u_2 0), .ref (u_2 1), .ref (u_2 2), .ref (u_2 3), .ref (u_2 4), .ref (u_2 5), .ref (u_2 6), .ref (u_2 7), .ref (u_2 8), .ref (u_2 9)])), ((u_2 0), .inl (cI, 6, .inl (fun _ => 0))), ((u_2 1), .inl (cI, 6, .inl (fun _ => 0))), ((u_2 2), .inl (cJ, 6, .inr (.inl (fun _ => 0)))), ((u_2 3), .inl (cZ, 6, .inl (fun _ => 0))), ((u_2 4), .inl (cZ, 40, .inl (fun _ => 0))), ((u_2 5), .inl (cI, 40, .inl (fun _ => 0))), ((u_2 6), .inl (cI, 40, .inl (fun _ => 0))), ((u_2 7), .inl (cI, 40, .inl (fun _ => 0))), ((u_2 8), .inl (cI, 480, .inl (fun _ => 0))), ((u_2 9), .inl (cI, 480, .inl (fun _ => 0))), (q_4, .inr (0, [.int 0, .ref (u_5 0), .ref (u_5 1), .ref (u_5 2), .ref (u_5 3), .ref (u_5 4), .ref (u_5 5), .ref (u_5 6), .ref (u_5 7), .ref (u_5 8), .ref (u_5 9)])), ((u_5 0), .inl (cI, 6, .inl (fun _ => 0))), ((u_5 1), .inl (cI, 6, .inl (fun _ => 0))), ((u_5 2), .inl (cJ, 6, .inr (.inl (fun _ => 0)))), ((u_5 3), .inl (cZ, 6, .inl (fun _ => 0))), ((u_5 4), .inl (cZ, 40, .inl (fun _ => 0))), ((u_5 5), .inl (cI, 40, .inl (fun _ => 0))), ((u_5 6), .inl (cI, 40, .inl (fun _ => 0))), ((u_5 7), .inl (cI, 40, .inl (fun _ => 0))), ((u_5 8), .inl (cI, 480, .inl (fun _ => 0))), ((u_5 9), .inl (cI, 480, .inl (fun _ => 0))), (q_8, .inl (cZ, 40, .inl (fun _ => 0))), (q_10, .inl (cI, 40, .inl (fun _ => 0)))]) [0, 1, 2, 3, 4, 5, 6, 7, 8, 9, 10, 11, 12, 13, 14, 15, 16, 17, 18, 19, 20, 21, 22, 23, 24] rfl
  have hD9 := hD.sub (ws' := [(lh, .inr (1, [.ref q_1, .ref q_4, .int 1, .ref q_8, .ref q_10, .int 0, .int 0, .int 0])), (q_1, .inr (0, [.int 0, .ref (u_2 0), .ref (u_2 1), .ref (u_2 2), .ref (u_2 3), .ref (u_2 4), .ref (u_2 5), .ref (u_2 6), .ref (u_2 7), .ref (u_2 8), .ref (u_2 9)])), ((u_2 0), .inl (cI, 6, .inl (fun _ => 0))), ((u_2 1), .inl (cI, 6, .inl (fun _ => 0))), ((u_2 2), .inl (cJ, 6, .inr (.inl (fun _ => 0)))), ((u_2 3), .inl (cZ, 6, .inl (fun _ => 0))), ((u_2 4), .inl (cZ, 40, .inl (fun _ => 0))), ((u_2 5), .inl (cI, 40, .inl (fun _ => 0))), ((u_2 6), .inl (cI, 40, .inl (fun _ => 0))), ((u_2 7), .inl (cI, 40, .inl (fun _ => 0))), ((u_2 8), .inl (cI, 480, .inl (fun _ => 0))), ((u_2 9), .inl (cI, 480, .inl (fun _ => 0))), (q_4, .inr (0, [.int 0, .ref (u_5 0), .ref (u_5 1), .ref (u_5 2), .ref (u_5 3), .ref (u_5 4), .ref (u_5 5), .ref (u_5 6), .ref (u_5 7), .ref (u_5 8), .ref (u_5 9)])), ((u_5 0), .inl (cI, 6, .inl (fun _ => 0))), ((u_5 1), .inl (cI, 6, .inl (fun _ => 0))), ((u_5 2), .inl (cJ, 6, .inr (.inl (fun _ => 0)))), ((u_5 3), .inl (cZ, 6, .inl (fun _ => 0))), ((u_5 4), .inl (cZ, 40, .inl (fun _ => 0))), ((u_5 5), .inl (cI, 40, .inl (fun _ => 0))), ((u_5 6), .inl (cI, 40, .inl (fun _ => 0))), ((u_5 7), .inl (cI, 40, .inl (fun _ => 0))), ((u_5 8), .inl (cI, 480, .inl (fun _ => 0))), ((u_5 9), .inl (cI, 480, .inl (fun _ => 0))), (q_8, .inl (cZ, 40, .inl (fun _ => 0))), (q_10, .inl (cI, 40, .inl (fun _ => 0)))]) [0, 1, 2, 3, 4, 5, 6, 7, 8, 9, 10, 11, 12, 13, 14, 15, 16, 17, 18, 19, 20, 21, 22, 23, 24] (by decide) rfl
  refine W.widen (k := 24) (n := 2390) (Nat.le_of_ble_eq_true rfl) (Nat.le_of_ble_eq_true rfl) ?_
  exact W.vret hx hb hr (fun t ht hW => ⟨⟨(fun k => match k with | 0 => q_1 | 1 => (u_2 0) | 2 => (u_2 1) | 3 => (u_2 2) | 4 => (u_2 3) | 5 => (u_2 4) | 6 => (u_2 5) | 7 => (u_2 6) | 8 => (u_2 7) | 9 => (u_2 8) | 10 => (u_2 9) | 11 => q_4 | 12 => (u_5 0) | 13 => (u_5 1) | 14 => (u_5 2) | 15 => (u_5 3) | 16 => (u_5 4) | 17 => (u_5 5) | 18 => (u_5 6) | 19 => (u_5 7) | 20 => (u_5 8) | 21 => (u_5 9) | 22 => q_8 | 23 => q_10 | _ => 0), rfl, trivial, by rw [ht]; exact hP9, va_K.moved hW.alike hK, hD9⟩, hS.F ht⟩) hS.2.2 dX1_init_62
end
section
def w_X2_forget : List Cond := .code yX2_forget cX2_forget 2 none :: ([.fieldLink RX2 9 "ArraySegments$Machine" "hasRun" "Z", .fieldLink RX2 15 "ArraySegments$Machine" "thrown" "I", .fieldLink RX2 19 "ArraySegments$Machine" "thrownAt" "I", .fieldLink RX2 26 "ArraySegments$Machine" "meant" "[I", .fieldLink RX2 22 "ArraySegments$Machine" "values" "[I"] ++ wsX20)
theorem inc_X2_forget_X2 : ∀ w ∈ wsX20, w ∈ w_X2_forget := fun _ h => List.mem_cons_of_mem _ (List.mem_append_right _ h)
abbrev pw_X2_forget (cI cJ cZ : ClassId) (mh : Nat) (m1 : Nat) (m2 : Nat) (mv_hasRun : Value) (mv_thrown : Value) (mv_thrownAt : Value) (mv_lanes : Value) (mv_lengths : Value) (mv_cells : Value) (mv_state : Value) (mf1 : Nat → Int32) (mf2 : Nat → Int32) : va_W := [(mh, .inr (2, [mv_hasRun, mv_thrown, mv_thrownAt, .ref m1, .ref m2, mv_lanes, mv_lengths, mv_cells, mv_state])), (m1, .inl (cI, 6, .inl mf1)), (m2, .inl (cI, 6, .inl mf2))]
set_option maxHeartbeats 4000000 in
set_option maxRecDepth 100000 in
theorem c_X2_forget (l : Launch) (dC : Nat → ClassId) (dI : Nat → Nat → Nat) (cI cJ cZ : ClassId) (mh : Nat) (m1 : Nat) (m2 : Nat) (mv_hasRun : Value) (mv_thrown : Value) (mv_thrownAt : Value) (mv_lanes : Value) (mv_lengths : Value) (mv_cells : Value) (mv_state : Value) (mf1 : Nat → Int32) (mf2 : Nat → Int32) (sz : Nat) : Met l yX2_forget w_X2_forget ({ frames := 0, cells := 0, slots := 0, locals := 0 }) (va_Pc [.ref mh] (cPre dC dI cI cJ cZ sz (pw_X2_forget cI cJ cZ mh m1 m2 mv_hasRun mv_thrown mv_thrownAt mv_lanes mv_lengths mv_cells mv_state mf1 mf2))) (va_Qv (fun (u : Nat → Nat) => True) (fun (u : Nat → Nat) => cPost dC dI cI cJ cZ (va_A (pw_X2_forget cI cJ cZ mh m1 m2 mv_hasRun mv_thrown mv_thrownAt mv_lanes mv_lengths mv_cells mv_state mf1 mf2) sz) [(mh, .inr (2, [.int 0, .int 0, .int (-1), .ref m1, .ref m2, mv_lanes, mv_lengths, mv_cells, mv_state])), (m1, .inl (cI, 6, .inl (ov mf1 6 0))), (m2, .inl (cI, 6, .inl (ov mf2 6 (-1))))]) (va_A (pw_X2_forget cI cJ cZ mh m1 m2 mv_hasRun mv_thrown mv_thrownAt mv_lanes mv_lengths mv_cells mv_state mf1 mf2) sz)) 0 0 (va_A (pw_X2_forget cI cJ cZ mh m1 m2 mv_hasRun mv_thrown mv_thrownAt mv_lanes mv_lengths mv_cells mv_state mf1 mf2) sz) := by
  refine Met.ofW (cc := cX2_forget) (maxL := 2) (ret := none) (by decide) rfl ?_
  intro p e s m args below meth c s₁ B hml hv
  obtain ⟨rfl, hsz, hP, hK, hD0, hN⟩ := hv
  have hx := B.exec
  have hb := B.bytes
  have hr := B.returns
  have hts := atoms_spec (ws := w_X2_forget) B.pre
  have hown : s.vm.findClass RX2 = some m.cls := findClass_of_methodNamed B.named
  have hlocks := B.notSynchronized
  subst hsz
  have hD := hD0.self (sz := s.heap.size)
  generalize hAe : va_A (pw_X2_forget cI cJ cZ mh m1 m2 mv_hasRun mv_thrown mv_thrownAt mv_lanes mv_lengths mv_cells mv_state mf1 mf2) s.heap.size = A at hD ⊢
  have hA : ∀ q : Nat, s.heap.size ≤ q → A q := fun q h => by rw [← hAe]; exact Or.inr h
  clear hAe hD0
  have hS : va_S A s.heap s.heap [] := va_S.rf
  replace hP : va_P (dC, dI) vwCl [(mh, .inr (2, [mv_hasRun, mv_thrown, mv_thrownAt, .ref m1, .ref m2, mv_lanes, mv_lengths, mv_cells, mv_state])), (m1, .inl (cI, 6, .inl mf1)), (m2, .inl (cI, 6, .inl mf2))] s.heap := hP
  replace hD : va_D A [(mh, .inr (2, [mv_hasRun, mv_thrown, mv_thrownAt, .ref m1, .ref m2, mv_lanes, mv_lengths, mv_cells, mv_state])), (m1, .inl (cI, 6, .inl mf1)), (m2, .inl (cI, 6, .inl mf2))] := hD
  have hl := lv_entry ([.ref mh]) (n := 2) (Nat.le_of_ble_eq_true rfl)
  rw [lg_entry_eq]
  generalize (lg_sl ([.ref mh]) ++ List.replicate (2 - (lg_sl ([.ref mh])).length) Slot.unset).toArray = ls at hl ⊢
  replace hl : lv_has ls 2 [(0, .ref mh)] := hl
  refine lv_aload_n hx hb dX2_forget_0 rfl (lv_at hl 0 rfl) ?_
  refine lv_iconst (v := 0) hx hb dX2_forget_1 (by decide) ?_
  refine va_put (D := (dC, dI)) (ci := 2) (v := .int 0) (ty := .boolean) (C := RX2) (T := TX2) (N := 9) hx hb hts inc_X2_forget_X2 tyX2 tyX2_ok nmX2 hown hK hP hD hS 0 rfl rfl 0 (by decide) (hts (.fieldLink RX2 9 "ArraySegments$Machine" "hasRun" "Z") (List.mem_of_getElem? (i := 1) rfl)) (fun _ h9 => h9) rfl (by decide +kernel) rfl rfl (Nat.le_of_ble_eq_true rfl) dX2_forget_2 (fun H_1 locs_1 hP1 hD1 hS1 => ?_)
  replace hP : va_P (dC, dI) vwCl [(mh, .inr (2, [.int 0, mv_thrown, mv_thrownAt, .ref m1, .ref m2, mv_lanes, mv_lengths, mv_cells, mv_state])), (m1, .inl (cI, 6, .inl mf1)), (m2, .inl (cI, 6, .inl mf2))] H_1 := hP1
  replace hD : va_D A [(mh, .inr (2, [.int 0, mv_thrown, mv_thrownAt, .ref m1, .ref m2, mv_lanes, mv_lengths, mv_cells, mv_state])), (m1, .inl (cI, 6, .inl mf1)), (m2, .inl (cI, 6, .inl mf2))] := hD1
  replace hS := hS1
  clear hP1 hD1 hS1
  refine lv_aload_n hx hb dX2_forget_5 rfl (lv_at hl 0 rfl) ?_
  refine lv_iconst (v := 0) hx hb dX2_forget_6 (by decide) ?_
  refine va_put (D := (dC, dI)) (ci := 2) (v := .int 0) (ty := .int) (C := RX2) (T := TX2) (N := 9) hx hb hts inc_X2_forget_X2 tyX2 tyX2_ok nmX2 hown hK hP hD hS 0 rfl rfl 1 (by decide) (hts (.fieldLink RX2 15 "ArraySegments$Machine" "thrown" "I") (List.mem_of_getElem? (i := 2) rfl)) (fun _ h9 => h9) rfl (by decide +kernel) rfl rfl (Nat.le_of_ble_eq_true rfl) dX2_forget_7 (fun H_2 locs_2 hP1 hD1 hS1 => ?_)
  replace hP : va_P (dC, dI) vwCl [(mh, .inr (2, [.int 0, .int 0, mv_thrownAt, .ref m1, .ref m2, mv_lanes, mv_lengths, mv_cells, mv_state])), (m1, .inl (cI, 6, .inl mf1)), (m2, .inl (cI, 6, .inl mf2))] H_2 := hP1
  replace hD : va_D A [(mh, .inr (2, [.int 0, .int 0, mv_thrownAt, .ref m1, .ref m2, mv_lanes, mv_lengths, mv_cells, mv_state])), (m1, .inl (cI, 6, .inl mf1)), (m2, .inl (cI, 6, .inl mf2))] := hD1
  replace hS := hS1
  clear hP1 hD1 hS1
  refine lv_aload_n hx hb dX2_forget_10 rfl (lv_at hl 0 rfl) ?_
  refine lv_iconst (v := (-1)) hx hb dX2_forget_11 (by decide) ?_
  refine va_put (D := (dC, dI)) (ci := 2) (v := .int (-1)) (ty := .int) (C := RX2) (T := TX2) (N := 9) hx hb hts inc_X2_forget_X2 tyX2 tyX2_ok nmX2 hown hK hP hD hS 0 rfl rfl 2 (by decide) (hts (.fieldLink RX2 19 "ArraySegments$Machine" "thrownAt" "I") (List.mem_of_getElem? (i := 3) rfl)) (fun _ h9 => h9) rfl (by decide +kernel) rfl rfl (Nat.le_of_ble_eq_true rfl) dX2_forget_12 (fun H_3 locs_3 hP1 hD1 hS1 => ?_)
  replace hP : va_P (dC, dI) vwCl [(mh, .inr (2, [.int 0, .int 0, .int (-1), .ref m1, .ref m2, mv_lanes, mv_lengths, mv_cells, mv_state])), (m1, .inl (cI, 6, .inl mf1)), (m2, .inl (cI, 6, .inl mf2))] H_3 := hP1
  replace hD : va_D A [(mh, .inr (2, [.int 0, .int 0, .int (-1), .ref m1, .ref m2, mv_lanes, mv_lengths, mv_cells, mv_state])), (m1, .inl (cI, 6, .inl mf1)), (m2, .inl (cI, 6, .inl mf2))] := hD1
  replace hS := hS1
  clear hP1 hD1 hS1
  refine lv_iconst (v := 0) hx hb dX2_forget_15 (by decide) ?_
  refine lv_istore_n (lv' := [(1, .int 0), (0, .ref mh)]) hx hb dX2_forget_16 rfl hl (by decide) rfl (fun ls1 hl1 => ?_)
  replace hl := hl1; clear hl1
  refine my_loop 6 (fun i => [(mh, .inr (2, [.int 0, .int 0, .int (-1), .ref m1, .ref m2, mv_lanes, mv_lengths, mv_cells, mv_state])), (m1, .inl (cI, 6, .inl (ov mf1 i 0))), (m2, .inl (cI, 6, .inl mf2))]) (fun i => [(1, .int (nI i)), (0, .ref mh)]) (H0 := s.heap) (A := A) (D := (dC, dI)) (cl := vwCl) (by first | (simp only [ov_0, ovL_0]; exact hP) | exact hP) (by first | (simp only [ov_0, ovL_0]; exact hD) | exact hD) hS (by exact hl) (fun H_17 locs_17 ls1 hP1 hD1 hS1 hl1 => ?_) (fun i17 hlt_i17 ih_17 H_17 locs_17 ls1 hP1 hD1 hS1 hl1 => ?_)
  · -- behind
    replace hP : va_P (dC, dI) vwCl [(mh, .inr (2, [.int 0, .int 0, .int (-1), .ref m1, .ref m2, mv_lanes, mv_lengths, mv_cells, mv_state])), (m1, .inl (cI, 6, .inl (ov mf1 6 0))), (m2, .inl (cI, 6, .inl mf2))] H_17 := hP1
    replace hD : va_D A [(mh, .inr (2, [.int 0, .int 0, .int (-1), .ref m1, .ref m2, mv_lanes, mv_lengths, mv_cells, mv_state])), (m1, .inl (cI, 6, .inl (ov mf1 6 0))), (m2, .inl (cI, 6, .inl mf2))] := hD1
    replace hS := hS1
    clear hP1 hD1 hS1
    replace hl : lv_has ls1 2 [(1, .int (nI 6)), (0, .ref mh)] := hl1
    clear hl1
    refine lv_iload_n hx hb dX2_forget_17 rfl (lv_at hl 0 rfl) ?_
    refine lv_bipush (v := 6) hx hb dX2_forget_18 (by decide) ?_
    refine lv_icmp_ge (tgt := 36) hx hb dX2_forget_20 (by decide) (fun c_4 => ?_) (fun c_4 => ?_)
    · -- on
      refine lv_iconst (v := 0) hx hb dX2_forget_36 (by decide) ?_
      refine lv_istore_n (lv' := [(1, .int 0), (0, .ref mh)]) hx hb dX2_forget_37 rfl hl (by decide) rfl (fun ls1 hl1 => ?_)
      replace hl := hl1; clear hl1
      refine my_loop 6 (fun i => [(mh, .inr (2, [.int 0, .int 0, .int (-1), .ref m1, .ref m2, mv_lanes, mv_lengths, mv_cells, mv_state])), (m1, .inl (cI, 6, .inl (ov mf1 6 0))), (m2, .inl (cI, 6, .inl (ov mf2 i (-1))))]) (fun i => [(1, .int (nI i)), (0, .ref mh)]) (H0 := s.heap) (A := A) (D := (dC, dI)) (cl := vwCl) (by first | (simp only [ov_0, ovL_0]; exact hP) | exact hP) (by first | (simp only [ov_0, ovL_0]; exact hD) | exact hD) hS (by exact hl) (fun H_38 locs_38 ls1 hP1 hD1 hS1 hl1 => ?_) (fun i38 hlt_i38 ih_38 H_38 locs_38 ls1 hP1 hD1 hS1 hl1 => ?_)
      · -- behind
        replace hP : va_P (dC, dI) vwCl [(mh, .inr (2, [.int 0, .int 0, .int (-1), .ref m1, .ref m2, mv_lanes, mv_lengths, mv_cells, mv_state])), (m1, .inl (cI, 6, .inl (ov mf1 6 0))), (m2, .inl (cI, 6, .inl (ov mf2 6 (-1))))] H_38 := hP1
        replace hD : va_D A [(mh, .inr (2, [.int 0, .int 0, .int (-1), .ref m1, .ref m2, mv_lanes, mv_lengths, mv_cells, mv_state])), (m1, .inl (cI, 6, .inl (ov mf1 6 0))), (m2, .inl (cI, 6, .inl (ov mf2 6 (-1))))] := hD1
        replace hS := hS1
        clear hP1 hD1 hS1
        replace hl : lv_has ls1 2 [(1, .int (nI 6)), (0, .ref mh)] := hl1
        clear hl1
        refine lv_iload_n hx hb dX2_forget_38 rfl (lv_at hl 0 rfl) ?_
        refine lv_bipush (v := 6) hx hb dX2_forget_39 (by decide) ?_
        refine lv_icmp_ge (tgt := 57) hx hb dX2_forget_41 (by decide) (fun c_5 => ?_) (fun c_5 => ?_)
        · -- on
          have hP9 := hP.sub (ws' := [(mh, .inr (2, [.int 0, .int 0, .int (-1), .ref m1, .ref m2, mv_lanes, mv_lengths, mv_cells, mv_state])), (m1, .inl (cI, 6, .inl (ov mf1 6 0))), (m2, .inl (cI, 6, .inl (ov mf2 6 (-1))))]) [0, 1, 2] rfl
          have hD9 := hD.sub (ws' := [(mh, .inr (2, [.int 0, .int 0, .int (-1), .ref m1, .ref m2, mv_lanes, mv_lengths, mv_cells, mv_state])), (m1, .inl (cI, 6, .inl (ov mf1 6 0))), (m2, .inl (cI, 6, .inl (ov mf2 6 (-1))))]) [0, 1, 2] (by decide) rfl
          exact W.vret hx hb hr (fun t ht hW => ⟨⟨(fun _ => 0), rfl, trivial, by rw [ht]; exact hP9, va_K.moved hW.alike hK, hD9⟩, hS.F ht⟩) hS.2.2 dX2_forget_57
        · exact absurd (by decide) c_5
      · -- once
        replace hP : va_P (dC, dI) vwCl [(mh, .inr (2, [.int 0, .int 0, .int (-1), .ref m1, .ref m2, mv_lanes, mv_lengths, mv_cells, mv_state])), (m1, .inl (cI, 6, .inl (ov mf1 6 0))), (m2, .inl (cI, 6, .inl (ov mf2 i38 (-1))))] H_38 := hP1
        replace hD : va_D A [(mh, .inr (2, [.int 0, .int 0, .int (-1), .ref m1, .ref m2, mv_lanes, mv_lengths, mv_cells, mv_state])), (m1, .inl (cI, 6, .inl (ov mf1 6 0))), (m2, .inl (cI, 6, .inl (ov mf2 i38 (-1))))] := hD1
        replace hS := hS1
        clear hP1 hD1 hS1
        replace hl : lv_has ls1 2 [(1, .int (nI i38)), (0, .ref mh)] := hl1
        clear hl1
        refine lv_iload_n hx hb dX2_forget_38 rfl (lv_at hl 0 rfl) ?_
        refine lv_bipush (v := 6) hx hb dX2_forget_39 (by decide) ?_
        refine lv_icmp_ge (tgt := 57) hx hb dX2_forget_41 (by decide) (fun c_6 => ?_) (fun c_6 => ?_)
        · exact absurd c_6 (nI_ge hlt_i38 (by decide))
        · -- on
          refine lv_aload_n hx hb dX2_forget_44 rfl (lv_at hl 1 rfl) ?_
          refine va_get (D := (dC, dI)) (ci := 2) (v := .ref m2) (C := RX2) (T := TX2) (N := 9) hx hb hts inc_X2_forget_X2 hown hK hP 0 rfl rfl 4 (by decide) (hts (.fieldLink RX2 26 "ArraySegments$Machine" "meant" "[I") (List.mem_of_getElem? (i := 4) rfl)) (fun _ h9 => h9) rfl dX2_forget_45 ?_
          refine lv_iload_n hx hb dX2_forget_48 rfl (lv_at hl 0 rfl) ?_
          refine lv_iconst (v := (-1)) hx hb dX2_forget_49 (by decide) ?_
          refine va_iast hx hb hK hP hD hS 2 0 rfl rfl (vp_in_nI (by omega) (by decide)) dX2_forget_50 (fun H_7 locs_7 hP1 hD1 hS1 => ?_)
          rw [show upd (ov mf2 i38 (-1)) (nI i38 : Int32).toNatClampNeg (-1) = (ov mf2 (i38 + 1) (-1)) from ov_st mf2 (-1) (by omega)] at hP1 hD1
          replace hP : va_P (dC, dI) vwCl [(mh, .inr (2, [.int 0, .int 0, .int (-1), .ref m1, .ref m2, mv_lanes, mv_lengths, mv_cells, mv_state])), (m1, .inl (cI, 6, .inl (ov mf1 6 0))), (m2, .inl (cI, 6, .inl (ov mf2 (i38 + 1) (-1))))] H_7 := hP1
          replace hD : va_D A [(mh, .inr (2, [.int 0, .int 0, .int (-1), .ref m1, .ref m2, mv_lanes, mv_lengths, mv_cells, mv_state])), (m1, .inl (cI, 6, .inl (ov mf1 6 0))), (m2, .inl (cI, 6, .inl (ov mf2 (i38 + 1) (-1))))] := hD1
          replace hS := hS1
          clear hP1 hD1 hS1
          refine lv_iinc (v := nI (i38 + 1)) (lv' := [(1, .int (nI (i38 + 1))), (0, .ref mh)]) hx hb dX2_forget_51 hl (k := 0) rfl (by rw [show Int32.ofInt 1 = (1 : Int32) from by decide]; exact nI_1 _) (by decide) rfl (fun ls1 hl1 => ?_)
          replace hl := hl1; clear hl1
          refine lv_goto (tgt := 38) hx hb dX2_forget_54 (by decide) ?_
          exact ih_38 _ _ _ (hP.sub [0, 1, 2] rfl) (hD.sub [0, 1, 2] (by decide) rfl) hS (lv_sub hl [0, 1] rfl)
    · exact absurd (by decide) c_4
  · -- once
    replace hP : va_P (dC, dI) vwCl [(mh, .inr (2, [.int 0, .int 0, .int (-1), .ref m1, .ref m2, mv_lanes, mv_lengths, mv_cells, mv_state])), (m1, .inl (cI, 6, .inl (ov mf1 i17 0))), (m2, .inl (cI, 6, .inl mf2))] H_17 := hP1
    replace hD : va_D A [(mh, .inr (2, [.int 0, .int 0, .int (-1), .ref m1, .ref m2, mv_lanes, mv_lengths, mv_cells, mv_state])), (m1, .inl (cI, 6, .inl (ov mf1 i17 0))), (m2, .inl (cI, 6, .inl mf2))] := hD1
    replace hS := hS1
    clear hP1 hD1 hS1
    replace hl : lv_has ls1 2 [(1, .int (nI i17)), (0, .ref mh)] := hl1
    clear hl1
    refine lv_iload_n hx hb dX2_forget_17 rfl (lv_at hl 0 rfl) ?_
    refine lv_bipush (v := 6) hx hb dX2_forget_18 (by decide) ?_
    refine lv_icmp_ge (tgt := 36) hx hb dX2_forget_20 (by decide) (fun c_8 => ?_) (fun c_8 => ?_)
    · exact absurd c_8 (nI_ge hlt_i17 (by decide))
    · -- on
      refine lv_aload_n hx hb dX2_forget_23 rfl (lv_at hl 1 rfl) ?_
      refine va_get (D := (dC, dI)) (ci := 2) (v := .ref m1) (C := RX2) (T := TX2) (N := 9) hx hb hts inc_X2_forget_X2 hown hK hP 0 rfl rfl 3 (by decide) (hts (.fieldLink RX2 22 "ArraySegments$Machine" "values" "[I") (List.mem_of_getElem? (i := 5) rfl)) (fun _ h9 => h9) rfl dX2_forget_24 ?_
      refine lv_iload_n hx hb dX2_forget_27 rfl (lv_at hl 0 rfl) ?_
      refine lv_iconst (v := 0) hx hb dX2_forget_28 (by decide) ?_
      refine va_iast hx hb hK hP hD hS 1 0 rfl rfl (vp_in_nI (by omega) (by decide)) dX2_forget_29 (fun H_9 locs_9 hP1 hD1 hS1 => ?_)
      rw [show upd (ov mf1 i17 0) (nI i17 : Int32).toNatClampNeg 0 = (ov mf1 (i17 + 1) 0) from ov_st mf1 0 (by omega)] at hP1 hD1
      replace hP : va_P (dC, dI) vwCl [(mh, .inr (2, [.int 0, .int 0, .int (-1), .ref m1, .ref m2, mv_lanes, mv_lengths, mv_cells, mv_state])), (m1, .inl (cI, 6, .inl (ov mf1 (i17 + 1) 0))), (m2, .inl (cI, 6, .inl mf2))] H_9 := hP1
      replace hD : va_D A [(mh, .inr (2, [.int 0, .int 0, .int (-1), .ref m1, .ref m2, mv_lanes, mv_lengths, mv_cells, mv_state])), (m1, .inl (cI, 6, .inl (ov mf1 (i17 + 1) 0))), (m2, .inl (cI, 6, .inl mf2))] := hD1
      replace hS := hS1
      clear hP1 hD1 hS1
      refine lv_iinc (v := nI (i17 + 1)) (lv' := [(1, .int (nI (i17 + 1))), (0, .ref mh)]) hx hb dX2_forget_30 hl (k := 0) rfl (by rw [show Int32.ofInt 1 = (1 : Int32) from by decide]; exact nI_1 _) (by decide) rfl (fun ls1 hl1 => ?_)
      replace hl := hl1; clear hl1
      refine lv_goto (tgt := 17) hx hb dX2_forget_33 (by decide) ?_
      exact ih_17 _ _ _ (hP.sub [0, 1, 2] rfl) (hD.sub [0, 1, 2] (by decide) rfl) hS (lv_sub hl [0, 1] rfl)

def w_X2_perform : List Cond := .code yX2_perform cX2_perform 7 none :: ([.methodLink RX2 42 yX2_forget, .instanceMethod yX2_forget, .selects RX2 yX2_forget yX2_forget, .initialized RX2, .code yX2_forget cX2_forget 2 none, .fieldLink RX2 9 "ArraySegments$Machine" "hasRun" "Z", .fieldLink RX2 15 "ArraySegments$Machine" "thrown" "I", .fieldLink RX2 19 "ArraySegments$Machine" "thrownAt" "I", .fieldLink RX2 26 "ArraySegments$Machine" "meant" "[I", .fieldLink RX2 22 "ArraySegments$Machine" "values" "[I", .fieldLink RX2 38 "ArraySegments$Machine" "state" "J", .fieldLink RX2 45 "ArraySegments$Program" "count" "I"] ++ wsX20 ++ wsX30)
theorem inc_X2_perform_X2 : ∀ w ∈ wsX20, w ∈ w_X2_perform := fun _ h => List.mem_cons_of_mem _ (List.mem_append_left _ (List.mem_append_right _ h))
theorem inc_X2_perform_X3 : ∀ w ∈ wsX30, w ∈ w_X2_perform := fun _ h => List.mem_cons_of_mem _ (List.mem_append_right _ h)
set_option maxRecDepth 20000 in
theorem g_X2_perform_X2_forget_42 : GoodIn w_X2_perform (wsV RX2 42 RX2 yX2_forget w_X2_forget) := goodIn_r _ [1, 2, 3, 4, 5, 6, 7, 8, 9, 10, 13, 14, 15, 16, 17, 18, 19, 20, 21] (by decide +kernel) (by decide +kernel)
abbrev pw_X2_perform (cI cJ cZ : ClassId) (mh : Nat) (m1 : Nat) (m2 : Nat) (mv_hasRun : Value) (mv_thrown : Value) (mv_thrownAt : Value) (mv_lanes : Value) (mv_lengths : Value) (mv_cells : Value) (mv_state : Value) (mf1 : Nat → Int32) (mf2 : Nat → Int32) (ph : Nat) (pv_rows : Value) (pv_dropped : Value) (seed : Int64) : va_W := [(mh, .inr (2, [mv_hasRun, mv_thrown, mv_thrownAt, .ref m1, .ref m2, mv_lanes, mv_lengths, mv_cells, mv_state])), (m1, .inl (cI, 6, .inl mf1)), (m2, .inl (cI, 6, .inl mf2)), (ph, .inr (3, [pv_rows, pv_dropped, .int 0]))]
set_option maxHeartbeats 4000000 in
set_option maxRecDepth 100000 in
theorem c_X2_perform (l : Launch) (dC : Nat → ClassId) (dI : Nat → Nat → Nat) (cI cJ cZ : ClassId) (mh : Nat) (m1 : Nat) (m2 : Nat) (mv_hasRun : Value) (mv_thrown : Value) (mv_thrownAt : Value) (mv_lanes : Value) (mv_lengths : Value) (mv_cells : Value) (mv_state : Value) (mf1 : Nat → Int32) (mf2 : Nat → Int32) (ph : Nat) (pv_rows : Value) (pv_dropped : Value) (seed : Int64) (sz : Nat) : Met l yX2_perform w_X2_perform ({ frames := 1, cells := 0, slots := 0, locals := 21 }) (va_Pc [.ref mh, .ref ph, .long seed] (cPre dC dI cI cJ cZ sz (pw_X2_perform cI cJ cZ mh m1 m2 mv_hasRun mv_thrown mv_thrownAt mv_lanes mv_lengths mv_cells mv_state mf1 mf2 ph pv_rows pv_dropped seed))) (va_Qv (fun (u : Nat → Nat) => True) (fun (u : Nat → Nat) => cPost dC dI cI cJ cZ (va_A (pw_X2_perform cI cJ cZ mh m1 m2 mv_hasRun mv_thrown mv_thrownAt mv_lanes mv_lengths mv_cells mv_state mf1 mf2 ph pv_rows pv_dropped seed) sz) [(mh, .inr (2, [.int 1, .int 0, .int (-1), .ref m1, .ref m2, mv_lanes, mv_lengths, mv_cells, .long seed])), (m1, .inl (cI, 6, .inl (ov mf1 6 0))), (m2, .inl (cI, 6, .inl (ov mf2 6 (-1)))), (ph, .inr (3, [pv_rows, pv_dropped, .int 0]))]) (va_A (pw_X2_perform cI cJ cZ mh m1 m2 mv_hasRun mv_thrown mv_thrownAt mv_lanes mv_lengths mv_cells mv_state mf1 mf2 ph pv_rows pv_dropped seed) sz)) 0 0 (va_A (pw_X2_perform cI cJ cZ mh m1 m2 mv_hasRun mv_thrown mv_thrownAt mv_lanes mv_lengths mv_cells mv_state mf1 mf2 ph pv_rows pv_dropped seed) sz) := by
  refine Met.ofW (cc := cX2_perform) (maxL := 7) (ret := none) (by decide) rfl ?_
  intro p e s m args below meth c s₁ B hml hv
  obtain ⟨rfl, hsz, hP, hK, hD0, hN⟩ := hv
  have hx := B.exec
  have hb := B.bytes
  have hr := B.returns
  have hts := atoms_spec (ws := w_X2_perform) B.pre
  have hown : s.vm.findClass RX2 = some m.cls := findClass_of_methodNamed B.named
  have hlocks := B.notSynchronized
  subst hsz
  have hD := hD0.self (sz := s.heap.size)
  generalize hAe : va_A (pw_X2_perform cI cJ cZ mh m1 m2 mv_hasRun mv_thrown mv_thrownAt mv_lanes mv_lengths mv_cells mv_state mf1 mf2 ph pv_rows pv_dropped seed) s.heap.size = A at hD ⊢
  have hA : ∀ q : Nat, s.heap.size ≤ q → A q := fun q h => by rw [← hAe]; exact Or.inr h
  clear hAe hD0
  have hS : va_S A s.heap s.heap [] := va_S.rf
  replace hP : va_P (dC, dI) vwCl [(mh, .inr (2, [mv_hasRun, mv_thrown, mv_thrownAt, .ref m1, .ref m2, mv_lanes, mv_lengths, mv_cells, mv_state])), (m1, .inl (cI, 6, .inl mf1)), (m2, .inl (cI, 6, .inl mf2)), (ph, .inr (3, [pv_rows, pv_dropped, .int 0]))] s.heap := hP
  replace hD : va_D A [(mh, .inr (2, [mv_hasRun, mv_thrown, mv_thrownAt, .ref m1, .ref m2, mv_lanes, mv_lengths, mv_cells, mv_state])), (m1, .inl (cI, 6, .inl mf1)), (m2, .inl (cI, 6, .inl mf2)), (ph, .inr (3, [pv_rows, pv_dropped, .int 0]))] := hD
  have hl := lv_entry ([.ref mh, .ref ph, .long seed]) (n := 7) (Nat.le_of_ble_eq_true rfl)
  rw [lg_entry_eq]
  generalize (lg_sl ([.ref mh, .ref ph, .long seed]) ++ List.replicate (7 - (lg_sl ([.ref mh, .ref ph, .long seed])).length) Slot.unset).toArray = ls at hl ⊢
  replace hl : lv_has ls 7 [(0, .ref mh), (1, .ref ph), (2, .long seed)] := hl
  refine lv_aload_n hx hb dX2_perform_0 rfl (lv_at hl 0 rfl) ?_
  have hPc := hP.sub (ws' := [(mh, .inr (2, [mv_hasRun, mv_thrown, mv_thrownAt, .ref m1, .ref m2, mv_lanes, mv_lengths, mv_cells, mv_state])), (m1, .inl (cI, 6, .inl mf1)), (m2, .inl (cI, 6, .inl mf2))]) [0, 1, 2] rfl
  have hDc := hD.sub (ws' := [(mh, .inr (2, [mv_hasRun, mv_thrown, mv_thrownAt, .ref m1, .ref m2, mv_lanes, mv_lengths, mv_cells, mv_state])), (m1, .inl (cI, 6, .inl mf1)), (m2, .inl (cI, 6, .inl mf2))]) [0, 1, 2] (by decide) rfl
  have hFc := va_free (wc := [(mh, .inr (2, [mv_hasRun, mv_thrown, mv_thrownAt, .ref m1, .ref m2, mv_lanes, mv_lengths, mv_cells, mv_state])), (m1, .inl (cI, 6, .inl mf1)), (m2, .inl (cI, 6, .inl mf2))]) hD hS hA [0, 1, 2] rfl
  refine va_callv (va_runV (As := []) (rest := []) ⟨hx, hb, hml, hown, hts⟩ (c_X2_forget l dC dI cI cJ cZ mh m1 m2 mv_hasRun mv_thrown mv_thrownAt mv_lanes mv_lengths mv_cells mv_state mf1 mf2 s.heap.size) (cwV 0 hts g_X2_perform_X2_forget_42 rfl rfl rfl (by decide +kernel) ⟨Nat.le_of_ble_eq_true rfl, Nat.le_of_ble_eq_true rfl⟩) ⟨cPre_blind, va_recv hK hPc (ci := 2) (q0 := 0) rfl rfl, cPre_of hK hN hPc hDc⟩ rfl rfl hl.1 rfl (lv_room (Nat.le_of_ble_eq_true rfl)) dX2_perform_1 ⟨Nat.le_of_ble_eq_true rfl, Nat.le_of_ble_eq_true rfl⟩) hS (fun q _ h => hFc q h) hFc (fun u_1 t_1 H_1 locs_1 ht hvm hw_1 hB hz1 hk1 hS1 => ?_)
  obtain ⟨hP1, hK1, hD1⟩ := hB
  rw [ht] at hP1
  obtain ⟨hP2, hD2⟩ := va_join (wr := [(ph, .inr (3, [pv_rows, pv_dropped, .int 0]))]) (w1 := [(mh, .inr (2, [.int 0, .int 0, .int (-1), .ref m1, .ref m2, mv_lanes, mv_lengths, mv_cells, mv_state])), (m1, .inl (cI, 6, .inl (ov mf1 6 0))), (m2, .inl (cI, 6, .inl (ov mf2 6 (-1))))]) hP hD [0, 1, 2] [3] rfl rfl (by decide) (by decide) hk1 hFc hP1 hD1
  clear hPc hDc hFc hP1 hD1 hK1 hk1 hz1 hvm ht
  replace hP : va_P (dC, dI) vwCl [(ph, .inr (3, [pv_rows, pv_dropped, .int 0])), (mh, .inr (2, [.int 0, .int 0, .int (-1), .ref m1, .ref m2, mv_lanes, mv_lengths, mv_cells, mv_state])), (m1, .inl (cI, 6, .inl (ov mf1 6 0))), (m2, .inl (cI, 6, .inl (ov mf2 6 (-1))))] H_1 := hP2
  replace hD : va_D A [(ph, .inr (3, [pv_rows, pv_dropped, .int 0])), (mh, .inr (2, [.int 0, .int 0, .int (-1), .ref m1, .ref m2, mv_lanes, mv_lengths, mv_cells, mv_state])), (m1, .inl (cI, 6, .inl (ov mf1 6 0))), (m2, .inl (cI, 6, .inl (ov mf2 6 (-1))))] := hD2
  replace hS := hS1
  clear hP2 hD2 hS1
  refine lv_aload_n hx hb dX2_perform_4 rfl (lv_at hl 0 rfl) ?_
  refine lv_iconst (v := 1) hx hb dX2_perform_5 (by decide) ?_
  refine va_put (D := (dC, dI)) (ci := 2) (v := .int 1) (ty := .boolean) (C := RX2) (T := TX2) (N := 9) hx hb hts inc_X2_perform_X2 tyX2 tyX2_ok nmX2 hown hK hP hD hS 1 rfl rfl 0 (by decide) (hts (.fieldLink RX2 9 "ArraySegments$Machine" "hasRun" "Z") (List.mem_of_getElem? (i := 6) rfl)) (fun _ h9 => h9) rfl (by decide +kernel) rfl rfl (Nat.le_of_ble_eq_true rfl) dX2_perform_6 (fun H_2 locs_2 hP1 hD1 hS1 => ?_)
  replace hP : va_P (dC, dI) vwCl [(ph, .inr (3, [pv_rows, pv_dropped, .int 0])), (mh, .inr (2, [.int 1, .int 0, .int (-1), .ref m1, .ref m2, mv_lanes, mv_lengths, mv_cells, mv_state])), (m1, .inl (cI, 6, .inl (ov mf1 6 0))), (m2, .inl (cI, 6, .inl (ov mf2 6 (-1))))] H_2 := hP1
  replace hD : va_D A [(ph, .inr (3, [pv_rows, pv_dropped, .int 0])), (mh, .inr (2, [.int 1, .int 0, .int (-1), .ref m1, .ref m2, mv_lanes, mv_lengths, mv_cells, mv_state])), (m1, .inl (cI, 6, .inl (ov mf1 6 0))), (m2, .inl (cI, 6, .inl (ov mf2 6 (-1))))] := hD1
  replace hS := hS1
  clear hP1 hD1 hS1
  refine lv_aload_n hx hb dX2_perform_9 rfl (lv_at hl 0 rfl) ?_
  refine lv_lload_n hx hb dX2_perform_10 rfl (lv_at hl 2 rfl) ?_
  refine va_put (D := (dC, dI)) (ci := 2) (v := .long seed) (ty := .long) (C := RX2) (T := TX2) (N := 9) hx hb hts inc_X2_perform_X2 tyX2 tyX2_ok nmX2 hown hK hP hD hS 1 rfl rfl 8 (by decide) (hts (.fieldLink RX2 38 "ArraySegments$Machine" "state" "J") (List.mem_of_getElem? (i := 11) rfl)) (fun _ h9 => h9) rfl (by decide +kernel) rfl rfl (Nat.le_of_ble_eq_true rfl) dX2_perform_11 (fun H_3 locs_3 hP1 hD1 hS1 => ?_)
  replace hP : va_P (dC, dI) vwCl [(ph, .inr (3, [pv_rows, pv_dropped, .int 0])), (mh, .inr (2, [.int 1, .int 0, .int (-1), .ref m1, .ref m2, mv_lanes, mv_lengths, mv_cells, .long seed])), (m1, .inl (cI, 6, .inl (ov mf1 6 0))), (m2, .inl (cI, 6, .inl (ov mf2 6 (-1))))] H_3 := hP1
  replace hD : va_D A [(ph, .inr (3, [pv_rows, pv_dropped, .int 0])), (mh, .inr (2, [.int 1, .int 0, .int (-1), .ref m1, .ref m2, mv_lanes, mv_lengths, mv_cells, .long seed])), (m1, .inl (cI, 6, .inl (ov mf1 6 0))), (m2, .inl (cI, 6, .inl (ov mf2 6 (-1))))] := hD1
  replace hS := hS1
  clear hP1 hD1 hS1
  refine lv_iconst (v := 0) hx hb dX2_perform_14 (by decide) ?_
  refine lv_istore (lv' := [(4, .int 0), (0, .ref mh), (1, .ref ph), (2, .long seed)]) hx hb dX2_perform_15 hl (by decide) rfl (fun ls1 hl1 => ?_)
  replace hl := hl1; clear hl1
  refine lv_iconst (v := 1) hx hb dX2_perform_17 (by decide) ?_
  refine lv_istore (lv' := [(5, .int 1), (4, .int 0), (0, .ref mh), (1, .ref ph), (2, .long seed)]) hx hb dX2_perform_18 hl (by decide) rfl (fun ls1 hl1 => ?_)
  replace hl := hl1; clear hl1
  refine lv_iconst (v := 0) hx hb dX2_perform_20 (by decide) ?_
  refine lv_istore (lv' := [(6, .int 0), (5, .int 1), (4, .int 0), (0, .ref mh), (1, .ref ph), (2, .long seed)]) hx hb dX2_perform_21 hl (by decide) rfl (fun ls1 hl1 => ?_)
  replace hl := hl1; clear hl1
  refine lv_iload hx hb dX2_perform_23 (lv_at hl 0 rfl) ?_
  refine lv_aload_n hx hb dX2_perform_25 rfl (lv_at hl 4 rfl) ?_
  refine va_get (D := (dC, dI)) (ci := 3) (v := .int 0) (C := RX3) (T := TX3) (N := 3) hx hb hts inc_X2_perform_X3 hown hK hP 0 rfl rfl 2 (by decide) (hts (.fieldLink RX2 45 "ArraySegments$Program" "count" "I") (List.mem_of_getElem? (i := 12) rfl)) (fun _ h9 => h9) rfl dX2_perform_26 ?_
  refine lv_icmp_ge (tgt := 139) hx hb dX2_perform_29 (by decide) (fun c_4 => ?_) (fun c_4 => ?_)
  · -- on
    have hP9 := hP.sub (ws' := [(mh, .inr (2, [.int 1, .int 0, .int (-1), .ref m1, .ref m2, mv_lanes, mv_lengths, mv_cells, .long seed])), (m1, .inl (cI, 6, .inl (ov mf1 6 0))), (m2, .inl (cI, 6, .inl (ov mf2 6 (-1)))), (ph, .inr (3, [pv_rows, pv_dropped, .int 0]))]) [1, 2, 3, 0] rfl
    have hD9 := hD.sub (ws' := [(mh, .inr (2, [.int 1, .int 0, .int (-1), .ref m1, .ref m2, mv_lanes, mv_lengths, mv_cells, .long seed])), (m1, .inl (cI, 6, .inl (ov mf1 6 0))), (m2, .inl (cI, 6, .inl (ov mf2 6 (-1)))), (ph, .inr (3, [pv_rows, pv_dropped, .int 0]))]) [1, 2, 3, 0] (by decide) rfl
    exact W.vret hx hb hr (fun t ht hW => ⟨⟨(fun _ => 0), rfl, trivial, by rw [ht]; exact hP9, va_K.moved hW.alike hK, hD9⟩, hS.F ht⟩) hS.2.2 dX2_perform_139
  · exact absurd (by decide) c_4

def w_X2_init : List Cond := .code yX2_init cX2_init 1 none :: ([.methodLink RX2 3 objectInit, .instanceMethod objectInit, .code objectInit ⟨#[0xb1]⟩ 1 none, .fieldLink RX2 9 "ArraySegments$Machine" "hasRun" "Z", .fieldLink RX2 15 "ArraySegments$Machine" "thrown" "I", .fieldLink RX2 19 "ArraySegments$Machine" "thrownAt" "I", .arrayClass .int, .fieldLink RX2 22 "ArraySegments$Machine" "values" "[I", .fieldLink RX2 26 "ArraySegments$Machine" "meant" "[I", .fieldLink RX2 29 "ArraySegments$Machine" "lanes" "[I", .fieldLink RX2 32 "ArraySegments$Machine" "lengths" "[I", .fieldLink RX2 35 "ArraySegments$Machine" "cells" "[I", .fieldLink RX2 38 "ArraySegments$Machine" "state" "J", .methodLink RX2 42 yX2_forget, .instanceMethod yX2_forget, .selects RX2 yX2_forget yX2_forget, .initialized RX2, .code yX2_forget cX2_forget 2 none] ++ wsX20)
theorem inc_X2_init_X2 : ∀ w ∈ wsX20, w ∈ w_X2_init := fun _ h => List.mem_cons_of_mem _ (List.mem_append_right _ h)
set_option maxRecDepth 20000 in
theorem g_X2_init_X2_forget_42 : GoodIn w_X2_init (wsV RX2 42 RX2 yX2_forget w_X2_forget) := goodIn_r _ [14, 15, 16, 17, 18, 4, 5, 6, 9, 8, 19, 20, 21, 22, 23, 24, 25, 26, 27] (by decide +kernel) (by decide +kernel)
abbrev pw_X2_init (cI cJ cZ : ClassId) (mh : Nat) : va_W := [(mh, .inr (2, [.int 0, .int 0, .int 0, .null, .null, .null, .null, .null, .long 0]))]
set_option maxHeartbeats 4000000 in
set_option maxRecDepth 100000 in
theorem c_X2_init (l : Launch) (dC : Nat → ClassId) (dI : Nat → Nat → Nat) (cI cJ cZ : ClassId) (mh : Nat) (sz : Nat) : Met l yX2_init w_X2_init ({ frames := 1, cells := 5, slots := 572, locals := 21 }) (va_Pc [.ref mh] (cPre dC dI cI cJ cZ sz (pw_X2_init cI cJ cZ mh))) (va_Qv (fun (u : Nat → Nat) => True) (fun (u : Nat → Nat) => cPost dC dI cI cJ cZ (va_A (pw_X2_init cI cJ cZ mh) sz) [(mh, .inr (2, [.int 0, .int 0, .int (-1), .ref (u 0), .ref (u 1), .ref (u 2), .ref (u 3), .ref (u 4), .long 0])), ((u 0), .inl (cI, 6, .inl (ov (fun _ => 0) 6 0))), ((u 1), .inl (cI, 6, .inl (ov (fun _ => 0) 6 (-1)))), ((u 2), .inl (cI, 40, .inl (fun _ => 0))), ((u 3), .inl (cI, 40, .inl (fun _ => 0))), ((u 4), .inl (cI, 480, .inl (fun _ => 0)))]) (va_A (pw_X2_init cI cJ cZ mh) sz)) 5 572 (va_A (pw_X2_init cI cJ cZ mh) sz) := by
  refine Met.ofW (cc := cX2_init) (maxL := 1) (ret := none) (by decide) rfl ?_
  intro p e s m args below meth c s₁ B hml hv
  obtain ⟨rfl, hsz, hP, hK, hD0, hN⟩ := hv
  have hx := B.exec
  have hb := B.bytes
  have hr := B.returns
  have hts := atoms_spec (ws := w_X2_init) B.pre
  have hown : s.vm.findClass RX2 = some m.cls := findClass_of_methodNamed B.named
  have hlocks := B.notSynchronized
  have hin : meth.name = "<init>" := (name_of_methodNamed B.named B.method).1
  subst hsz
  have hD := hD0.self (sz := s.heap.size)
  generalize hAe : va_A (pw_X2_init cI cJ cZ mh) s.heap.size = A at hD ⊢
  have hA : ∀ q : Nat, s.heap.size ≤ q → A q := fun q h => by rw [← hAe]; exact Or.inr h
  clear hAe hD0
  have hS : va_S A s.heap s.heap [] := va_S.rf
  replace hP : va_P (dC, dI) vwCl [(mh, .inr (2, [.int 0, .int 0, .int 0, .null, .null, .null, .null, .null, .long 0]))] s.heap := hP
  replace hD : va_D A [(mh, .inr (2, [.int 0, .int 0, .int 0, .null, .null, .null, .null, .null, .long 0]))] := hD
  have hl := lv_entry ([.ref mh]) (n := 1) (Nat.le_of_ble_eq_true rfl)
  rw [lg_entry_eq]
  generalize (lg_sl ([.ref mh]) ++ List.replicate (1 - (lg_sl ([.ref mh])).length) Slot.unset).toArray = ls at hl ⊢
  replace hl : lv_has ls 1 [(0, .ref mh)] := hl
  refine lv_aload_n hx hb dX2_init_0 rfl (lv_at hl 0 rfl) ?_
  refine W.objInit hx hb hown (hts (.methodLink RX2 3 objectInit) (List.mem_of_getElem? (i := 1) rfl)) (hts (.instanceMethod objectInit) (List.mem_of_getElem? (i := 2) rfl)) (hts (.code objectInit ⟨#[0xb1]⟩ 1 none) (List.mem_of_getElem? (i := 3) rfl)) rfl (by rw [hml]; exact hl.1) rfl dX2_init_1 (Nat.le_of_ble_eq_true rfl) (Nat.le_of_ble_eq_true rfl) ?_
  refine W.eq (g2 := F0 m 4 _ []) rfl ?_
  refine lv_aload_n hx hb dX2_init_4 rfl (lv_at hl 0 rfl) ?_
  refine lv_iconst (v := 0) hx hb dX2_init_5 (by decide) ?_
  refine va_put (D := (dC, dI)) (ci := 2) (v := .int 0) (ty := .boolean) (C := RX2) (T := TX2) (N := 9) hx hb hts inc_X2_init_X2 tyX2 tyX2_ok nmX2 hown hK hP hD hS 0 rfl rfl 0 (by decide) (hts (.fieldLink RX2 9 "ArraySegments$Machine" "hasRun" "Z") (List.mem_of_getElem? (i := 4) rfl)) (fun _ h9 => h9) rfl (by decide +kernel) rfl rfl (Nat.le_of_ble_eq_true rfl) dX2_init_6 (fun H_1 locs_1 hP1 hD1 hS1 => ?_)
  replace hP : va_P (dC, dI) vwCl [(mh, .inr (2, [.int 0, .int 0, .int 0, .null, .null, .null, .null, .null, .long 0]))] H_1 := hP1
  replace hD : va_D A [(mh, .inr (2, [.int 0, .int 0, .int 0, .null, .null, .null, .null, .null, .long 0]))] := hD1
  replace hS := hS1
  clear hP1 hD1 hS1
  refine lv_aload_n hx hb dX2_init_9 rfl (lv_at hl 0 rfl) ?_
  refine lv_iconst (v := 0) hx hb dX2_init_10 (by decide) ?_
  refine va_put (D := (dC, dI)) (ci := 2) (v := .int 0) (ty := .int) (C := RX2) (T := TX2) (N := 9) hx hb hts inc_X2_init_X2 tyX2 tyX2_ok nmX2 hown hK hP hD hS 0 rfl rfl 1 (by decide) (hts (.fieldLink RX2 15 "ArraySegments$Machine" "thrown" "I") (List.mem_of_getElem? (i := 5) rfl)) (fun _ h9 => h9) rfl (by decide +kernel) rfl rfl (Nat.le_of_ble_eq_true rfl) dX2_init_11 (fun H_2 locs_2 hP1 hD1 hS1 => ?_)
  replace hP : va_P (dC, dI) vwCl [(mh, .inr (2, [.int 0, .int 0, .int 0, .null, .null, .null, .null, .null, .long 0]))] H_2 := hP1
  replace hD : va_D A [(mh, .inr (2, [.int 0, .int 0, .int 0, .null, .null, .null, .null, .null, .long 0]))] := hD1
  replace hS := hS1
  clear hP1 hD1 hS1
  refine lv_aload_n hx hb dX2_init_14 rfl (lv_at hl 0 rfl) ?_
  refine lv_iconst (v := (-1)) hx hb dX2_init_15 (by decide) ?_
  refine va_put (D := (dC, dI)) (ci := 2) (v := .int (-1)) (ty := .int) (C := RX2) (T := TX2) (N := 9) hx hb hts inc_X2_init_X2 tyX2 tyX2_ok nmX2 hown hK hP hD hS 0 rfl rfl 2 (by decide) (hts (.fieldLink RX2 19 "ArraySegments$Machine" "thrownAt" "I") (List.mem_of_getElem? (i := 6) rfl)) (fun _ h9 => h9) rfl (by decide +kernel) rfl rfl (Nat.le_of_ble_eq_true rfl) dX2_init_16 (fun H_3 locs_3 hP1 hD1 hS1 => ?_)
  replace hP : va_P (dC, dI) vwCl [(mh, .inr (2, [.int 0, .int 0, .int (-1), .null, .null, .null, .null, .null, .long 0]))] H_3 := hP1
  replace hD : va_D A [(mh, .inr (2, [.int 0, .int 0, .int (-1), .null, .null, .null, .null, .null, .long 0]))] := hD1
  replace hS := hS1
  clear hP1 hD1 hS1
  refine lv_aload_n hx hb dX2_init_19 rfl (lv_at hl 0 rfl) ?_
  refine lv_bipush (v := 6) hx hb dX2_init_20 (by decide) ?_
  refine my_newaI hx hb (hts (.arrayClass .int) (List.mem_of_getElem? (i := 7) rfl)) hK hP hD hS hA (N' := 6) (by decide) (by decide) (by decide) (Nat.le_of_ble_eq_true rfl) (Nat.le_of_ble_eq_true rfl) dX2_init_22 (fun q_4 H_4 hP1 hD1 hS1 => ?_)
  replace hP : va_P (dC, dI) vwCl [(mh, .inr (2, [.int 0, .int 0, .int (-1), .null, .null, .null, .null, .null, .long 0])), (q_4, .inl (cI, 6, .inl (fun _ => 0)))] H_4 := hP1
  replace hD : va_D A [(mh, .inr (2, [.int 0, .int 0, .int (-1), .null, .null, .null, .null, .null, .long 0])), (q_4, .inl (cI, 6, .inl (fun _ => 0)))] := hD1
  replace hS := hS1
  clear hP1 hD1 hS1
  refine W.widen (k := 1) (n := 6) (Nat.le_of_ble_eq_true rfl) (Nat.le_of_ble_eq_true rfl) ?_
  refine va_putF (D := (dC, dI)) (ci := 2) (v := .ref q_4) (ty := .array .int) (C := RX2) (T := TX2) (N := 9) hx hb hts inc_X2_init_X2 tyX2 tyX2_ok nmX2 hown hK hP hD hS 0 rfl rfl 3 (by decide) (hts (.fieldLink RX2 22 "ArraySegments$Machine" "values" "[I") (List.mem_of_getElem? (i := 8) rfl)) (fun _ h9 => h9) rfl hin rfl (by decide +kernel) rfl rfl (Nat.le_of_ble_eq_true rfl) dX2_init_24 (fun H_5 locs_5 hP1 hD1 hS1 => ?_)
  replace hP : va_P (dC, dI) vwCl [(mh, .inr (2, [.int 0, .int 0, .int (-1), .ref q_4, .null, .null, .null, .null, .long 0])), (q_4, .inl (cI, 6, .inl (fun _ => 0)))] H_5 := hP1
  replace hD : va_D A [(mh, .inr (2, [.int 0, .int 0, .int (-1), .ref q_4, .null, .null, .null, .null, .long 0])), (q_4, .inl (cI, 6, .inl (fun _ => 0)))] := hD1
  replace hS := hS1
  clear hP1 hD1 hS1
  refine lv_aload_n hx hb dX2_init_27 rfl (lv_at hl 0 rfl) ?_
  refine lv_bipush (v := 6) hx hb dX2_init_28 (by decide) ?_
  refine my_newaI hx hb (hts (.arrayClass .int) (List.mem_of_getElem? (i := 7) rfl)) hK hP hD hS hA (N' := 6) (by decide) (by decide) (by decide) (Nat.le_of_ble_eq_true rfl) (Nat.le_of_ble_eq_true rfl) dX2_init_30 (fun q_6 H_6 hP1 hD1 hS1 => ?_)
  replace hP : va_P (dC, dI) vwCl [(mh, .inr (2, [.int 0, .int 0, .int (-1), .ref q_4, .null, .null, .null, .null, .long 0])), (q_4, .inl (cI, 6, .inl (fun _ => 0))), (q_6, .inl (cI, 6, .inl (fun _ => 0)))] H_6 := hP1
  replace hD : va_D A [(mh, .inr (2, [.int 0, .int 0, .int (-1), .ref q_4, .null, .null, .null, .null, .long 0])), (q_4, .inl (cI, 6, .inl (fun _ => 0))), (q_6, .inl (cI, 6, .inl (fun _ => 0)))] := hD1
  replace hS := hS1
  clear hP1 hD1 hS1
  refine W.widen (k := 2) (n := 12) (Nat.le_of_ble_eq_true rfl) (Nat.le_of_ble_eq_true rfl) ?_
  refine va_putF (D := (dC, dI)) (ci := 2) (v := .ref q_6) (ty := .array .int) (C := RX2) (T := TX2) (N := 9) hx hb hts inc_X2_init_X2 tyX2 tyX2_ok nmX2 hown hK hP hD hS 0 rfl rfl 4 (by decide) (hts (.fieldLink RX2 26 "ArraySegments$Machine" "meant" "[I") (List.mem_of_getElem? (i := 9) rfl)) (fun _ h9 => h9) rfl hin rfl (by decide +kernel) rfl rfl (Nat.le_of_ble_eq_true rfl) dX2_init_32 (fun H_7 locs_7 hP1 hD1 hS1 => ?_)
  replace hP : va_P (dC, dI) vwCl [(mh, .inr (2, [.int 0, .int 0, .int (-1), .ref q_4, .ref q_6, .null, .null, .null, .long 0])), (q_4, .inl (cI, 6, .inl (fun _ => 0))), (q_6, .inl (cI, 6, .inl (fun _ => 0)))] H_7 := hP1
  replace hD : va_D A [(mh, .inr (2, [.int 0, .int 0, .int (-1), .ref q_4, .ref q_6, .null, .null, .null, .long 0])), (q_4, .inl (cI, 6, .inl (fun _ => 0))), (q_6, .inl (cI, 6, .inl (fun _ => 0)))] := hD1
  replace hS := hS1
  clear hP1 hD1 hS1
  refine lv_aload_n hx hb dX2_init_35 rfl (lv_at hl 0 rfl) ?_
  refine lv_bipush (v := 40) hx hb dX2_init_36 (by decide) ?_
  refine my_newaI hx hb (hts (.arrayClass .int) (List.mem_of_getElem? (i := 7) rfl)) hK hP hD hS hA (N' := 40) (by decide) (by decide) (by decide) (Nat.le_of_ble_eq_true rfl) (Nat.le_of_ble_eq_true rfl) dX2_init_38 (fun q_8 H_8 hP1 hD1 hS1 => ?_)
  replace hP : va_P (dC, dI) vwCl [(mh, .inr (2, [.int 0, .int 0, .int (-1), .ref q_4, .ref q_6, .null, .null, .null, .long 0])), (q_4, .inl (cI, 6, .inl (fun _ => 0))), (q_6, .inl (cI, 6, .inl (fun _ => 0))), (q_8, .inl (cI, 40, .inl (fun _ => 0)))] H_8 := hP1
  replace hD : va_D A [(mh, .inr (2, [.int 0, .int 0, .int (-1), .ref q_4, .ref q_6, .null, .null, .null, .long 0])), (q_4, .inl (cI, 6, .inl (fun _ => 0))), (q_6, .inl (cI, 6, .inl (fun _ => 0))), (q_8, .inl (cI, 40, .inl (fun _ => 0)))] := hD1
  replace hS := hS1
  clear hP1 hD1 hS1
  refine W.widen (k := 3) (n := 52) (Nat.le_of_ble_eq_true rfl) (Nat.le_of_ble_eq_true rfl) ?_
  refine va_putF (D := (dC, dI)) (ci := 2) (v := .ref q_8) (ty := .array .int) (C := RX2) (T := TX2) (N := 9) hx hb hts inc_X2_init_X2 tyX2 tyX2_ok nmX2 hown hK hP hD hS 0 rfl rfl 5 (by decide) (hts (.fieldLink RX2 29 "ArraySegments$Machine" "lanes" "[I") (List.mem_of_getElem? (i := 10) rfl)) (fun _ h9 => h9) rfl hin rfl (by decide +kernel) rfl rfl (Nat.le_of_ble_eq_true rfl) dX2_init_40 (fun H_9 locs_9 hP1 hD1 hS1 => ?_)
  replace hP : va_P (dC, dI) vwCl [(mh, .inr (2, [.int 0, .int 0, .int (-1), .ref q_4, .ref q_6, .ref q_8, .null, .null, .long 0])), (q_4, .inl (cI, 6, .inl (fun _ => 0))), (q_6, .inl (cI, 6, .inl (fun _ => 0))), (q_8, .inl (cI, 40, .inl (fun _ => 0)))] H_9 := hP1
  replace hD : va_D A [(mh, .inr (2, [.int 0, .int 0, .int (-1), .ref q_4, .ref q_6, .ref q_8, .null, .null, .long 0])), (q_4, .inl (cI, 6, .inl (fun _ => 0))), (q_6, .inl (cI, 6, .inl (fun _ => 0))), (q_8, .inl (cI, 40, .inl (fun _ => 0)))] := hD1
  replace hS := hS1
  clear hP1 hD1 hS1
  refine lv_aload_n hx hb dX2_init_43 rfl (lv_at hl 0 rfl) ?_
  refine lv_bipush (v := 40) hx hb dX2_init_44 (by decide) ?_
  refine my_newaI hx hb (hts (.arrayClass .int) (List.mem_of_getElem? (i := 7) rfl)) hK hP hD hS hA (N' := 40) (by decide) (by decide) (by decide) (Nat.le_of_ble_eq_true rfl) (Nat.le_of_ble_eq_true rfl) dX2_init_46 (fun q_10 H_10 hP1 hD1 hS1 => ?_)
  replace hP : va_P (dC, dI) vwCl [(mh, .inr (2, [.int 0, .int 0, .int (-1), .ref q_4, .ref q_6, .ref q_8, .null, .null, .long 0])), (q_4, .inl (cI, 6, .inl (fun _ => 0))), (q_6, .inl (cI, 6, .inl (fun _ => 0))), (q_8, .inl (cI, 40, .inl (fun _ => 0))), (q_10, .inl (cI, 40, .inl (fun _ => 0)))] H_10 := hP1
  replace hD : va_D A [(mh, .inr (2, [.int 0, .int 0, .int (-1), .ref q_4, .ref q_6, .ref q_8, .null, .null, .long 0])), (q_4, .inl (cI, 6, .inl (fun _ => 0))), (q_6, .inl (cI, 6, .inl (fun _ => 0))), (q_8, .inl (cI, 40, .inl (fun _ => 0))), (q_10, .inl (cI, 40, .inl (fun _ => 0)))] := hD1
  replace hS := hS1
  clear hP1 hD1 hS1
  refine W.widen (k := 4) (n := 92) (Nat.le_of_ble_eq_true rfl) (Nat.le_of_ble_eq_true rfl) ?_
  refine va_putF (D := (dC, dI)) (ci := 2) (v := .ref q_10) (ty := .array .int) (C := RX2) (T := TX2) (N := 9) hx hb hts inc_X2_init_X2 tyX2 tyX2_ok nmX2 hown hK hP hD hS 0 rfl rfl 6 (by decide) (hts (.fieldLink RX2 32 "ArraySegments$Machine" "lengths" "[I") (List.mem_of_getElem? (i := 11) rfl)) (fun _ h9 => h9) rfl hin rfl (by decide +kernel) rfl rfl (Nat.le_of_ble_eq_true rfl) dX2_init_48 (fun H_11 locs_11 hP1 hD1 hS1 => ?_)
  replace hP : va_P (dC, dI) vwCl [(mh, .inr (2, [.int 0, .int 0, .int (-1), .ref q_4, .ref q_6, .ref q_8, .ref q_10, .null, .long 0])), (q_4, .inl (cI, 6, .inl (fun _ => 0))), (q_6, .inl (cI, 6, .inl (fun _ => 0))), (q_8, .inl (cI, 40, .inl (fun _ => 0))), (q_10, .inl (cI, 40, .inl (fun _ => 0)))] H_11 := hP1
  replace hD : va_D A [(mh, .inr (2, [.int 0, .int 0, .int (-1), .ref q_4, .ref q_6, .ref q_8, .ref q_10, .null, .long 0])), (q_4, .inl (cI, 6, .inl (fun _ => 0))), (q_6, .inl (cI, 6, .inl (fun _ => 0))), (q_8, .inl (cI, 40, .inl (fun _ => 0))), (q_10, .inl (cI, 40, .inl (fun _ => 0)))] := hD1
  replace hS := hS1
  clear hP1 hD1 hS1
  refine lv_aload_n hx hb dX2_init_51 rfl (lv_at hl 0 rfl) ?_
  refine lv_sipush (v := 480) hx hb dX2_init_52 (by decide) ?_
  refine my_newaI hx hb (hts (.arrayClass .int) (List.mem_of_getElem? (i := 7) rfl)) hK hP hD hS hA (N' := 480) (by decide) (by decide) (by decide) (Nat.le_of_ble_eq_true rfl) (Nat.le_of_ble_eq_true rfl) dX2_init_55 (fun q_12 H_12 hP1 hD1 hS1 => ?_)
  replace hP : va_P (dC, dI) vwCl [(mh, .inr (2, [.int 0, .int 0, .int (-1), .ref q_4, .ref q_6, .ref q_8, .ref q_10, .null, .long 0])), (q_4, .inl (cI, 6, .inl (fun _ => 0))), (q_6, .inl (cI, 6, .inl (fun _ => 0))), (q_8, .inl (cI, 40, .inl (fun _ => 0))), (q_10, .inl (cI, 40, .inl (fun _ => 0))), (q_12, .inl (cI, 480, .inl (fun _ => 0)))] H_12 := hP1
  replace hD : va_D A [(mh, .inr (2, [.int 0, .int 0, .int (-1), .ref q_4, .ref q_6, .ref q_8, .ref q_10, .null, .long 0])), (q_4, .inl (cI, 6, .inl (fun _ => 0))), (q_6, .inl (cI, 6, .inl (fun _ => 0))), (q_8, .inl (cI, 40, .inl (fun _ => 0))), (q_10, .inl (cI, 40, .inl (fun _ => 0))), (q_12, .inl (cI, 480, .inl (fun _ => 0)))] := hD1
  replace hS := hS1
  clear hP1 hD1 hS1
  refine W.widen (k := 5) (n := 572) (Nat.le_of_ble_eq_true rfl) (Nat.le_of_ble_eq_true rfl) ?_
  refine va_putF (D := (dC, dI)) (ci := 2) (v := .ref q_12) (ty := .array .int) (C := RX2) (T := TX2) (N := 9) hx hb hts inc_X2_init_X2 tyX2 tyX2_ok nmX2 hown hK hP hD hS 0 rfl rfl 7 (by decide) (hts (.fieldLink RX2 35 "ArraySegments$Machine" "cells" "[I") (List.mem_of_getElem? (i := 12) rfl)) (fun _ h9 => h9) rfl hin rfl (by decide +kernel) rfl rfl (Nat.le_of_ble_eq_true rfl) dX2_init_57 (fun H_13 locs_13 hP1 hD1 hS1 => ?_)
  replace hP : va_P (dC, dI) vwCl [(mh, .inr (2, [.int 0, .int 0, .int (-1), .ref q_4, .ref q_6, .ref q_8, .ref q_10, .ref q_12, .long 0])), (q_4, .inl (cI, 6, .inl (fun _ => 0))), (q_6, .inl (cI, 6, .inl (fun _ => 0))), (q_8, .inl (cI, 40, .inl (fun _ => 0))), (q_10, .inl (cI, 40, .inl (fun _ => 0))), (q_12, .inl (cI, 480, .inl (fun _ => 0)))] H_13 := hP1
  replace hD : va_D A [(mh, .inr (2, [.int 0, .int 0, .int (-1), .ref q_4, .ref q_6, .ref q_8, .ref q_10, .ref q_12, .long 0])), (q_4, .inl (cI, 6, .inl (fun _ => 0))), (q_6, .inl (cI, 6, .inl (fun _ => 0))), (q_8, .inl (cI, 40, .inl (fun _ => 0))), (q_10, .inl (cI, 40, .inl (fun _ => 0))), (q_12, .inl (cI, 480, .inl (fun _ => 0)))] := hD1
  replace hS := hS1
  clear hP1 hD1 hS1
  refine lv_aload_n hx hb dX2_init_60 rfl (lv_at hl 0 rfl) ?_
  refine lv_lconst (v := 0) hx hb dX2_init_61 (by decide) ?_
  refine va_put (D := (dC, dI)) (ci := 2) (v := .long 0) (ty := .long) (C := RX2) (T := TX2) (N := 9) hx hb hts inc_X2_init_X2 tyX2 tyX2_ok nmX2 hown hK hP hD hS 0 rfl rfl 8 (by decide) (hts (.fieldLink RX2 38 "ArraySegments$Machine" "state" "J") (List.mem_of_getElem? (i := 13) rfl)) (fun _ h9 => h9) rfl (by decide +kernel) rfl rfl (Nat.le_of_ble_eq_true rfl) dX2_init_62 (fun H_14 locs_14 hP1 hD1 hS1 => ?_)
  replace hP : va_P (dC, dI) vwCl [(mh, .inr (2, [.int 0, .int 0, .int (-1), .ref q_4, .ref q_6, .ref q_8, .ref q_10, .ref q_12, .long 0])), (q_4, .inl (cI, 6, .inl (fun _ => 0))), (q_6, .inl (cI, 6, .inl (fun _ => 0))), (q_8, .inl (cI, 40, .inl (fun _ => 0))), (q_10, .inl (cI, 40, .inl (fun _ => 0))), (q_12, .inl (cI, 480, .inl (fun _ => 0)))] H_14 := hP1
  replace hD : va_D A [(mh, .inr (2, [.int 0, .int 0, .int (-1), .ref q_4, .ref q_6, .ref q_8, .ref q_10, .ref q_12, .long 0])), (q_4, .inl (cI, 6, .inl (fun _ => 0))), (q_6, .inl (cI, 6, .inl (fun _ => 0))), (q_8, .inl (cI, 40, .inl (fun _ => 0))), (q_10, .inl (cI, 40, .inl (fun _ => 0))), (q_12, .inl (cI, 480, .inl (fun _ => 0)))] := hD1
  replace hS := hS1
  clear hP1 hD1 hS1
  refine lv_aload_n hx hb dX2_init_65 rfl (lv_at hl 0 rfl) ?_
  have hPc := hP.sub (ws' := [(mh, .inr (2, [.int 0, .int 0, .int (-1), .ref q_4, .ref q_6, .ref q_8, .ref q_10, .ref q_12, .long 0])), (q_4, .inl (cI, 6, .inl (fun _ => 0))), (q_6, .inl (cI, 6, .inl (fun _ => 0)))]) [0, 1, 2] rfl
  have hDc := hD.sub (ws' := [(mh, .inr (2, [.int 0, .int 0, .int (-1), .ref q_4, .ref q_6, .ref q_8, .ref q_10, .ref q_12, .long 0])), (q_4, .inl (cI, 6, .inl (fun _ => 0))), (q_6, .inl (cI, 6, .inl (fun _ => 0)))]) [0, 1, 2] (by decide) rfl
  have hFc := va_free (wc := [(mh, .inr (2, [.int 0, .int 0, .int (-1), .ref q_4, .ref q_6, .ref q_8, .ref q_10, .ref q_12, .long 0])), (q_4, .inl (cI, 6, .inl (fun _ => 0))), (q_6, .inl (cI, 6, .inl (fun _ => 0)))]) hD hS hA [0, 1, 2] rfl
  refine va_callv (va_runV (As := []) (rest := []) ⟨hx, hb, hml, hown, hts⟩ (c_X2_forget l dC dI cI cJ cZ mh q_4 q_6 (.int 0) (.int 0) (.int (-1)) (.ref q_8) (.ref q_10) (.ref q_12) (.long 0) (fun _ => 0) (fun _ => 0) H_14.size) (cwV 0 hts g_X2_init_X2_forget_42 rfl rfl rfl (by decide +kernel) ⟨Nat.le_of_ble_eq_true rfl, Nat.le_of_ble_eq_true rfl⟩) ⟨cPre_blind, va_recv hK hPc (ci := 2) (q0 := 0) rfl rfl, cPre_of hK hN hPc hDc⟩ rfl rfl hl.1 rfl (lv_room (Nat.le_of_ble_eq_true rfl)) dX2_init_66 ⟨Nat.le_of_ble_eq_true rfl, Nat.le_of_ble_eq_true rfl⟩) hS (fun q _ h => hFc q h) hFc (fun u_15 t_15 H_15 locs_15 ht hvm hw_15 hB hz1 hk1 hS1 => ?_)
  obtain ⟨hP1, hK1, hD1⟩ := hB
  rw [ht] at hP1
  obtain ⟨hP2, hD2⟩ := va_join (wr := [(q_8, .inl (cI, 40, .inl (fun _ => 0))), (q_10, .inl (cI, 40, .inl (fun _ => 0))), (q_12, .inl (cI, 480, .inl (fun _ => 0)))]) (w1 := [(mh, .inr (2, [.int 0, .int 0, .int (-1), .ref q_4, .ref q_6, .ref q_8, .ref q_10, .ref q_12, .long 0])), (q_4, .inl (cI, 6, .inl (ov (fun _ => 0) 6 0))), (q_6, .inl (cI, 6, .inl (ov (fun _ => 0) 6 (-1))))]) hP hD [0, 1, 2] [3, 4, 5] rfl rfl (by decide) (by decide) hk1 hFc hP1 hD1
  clear hPc hDc hFc hP1 hD1 hK1 hk1 hz1 hvm ht
  replace hP : va_P (dC, dI) vwCl [(q_8, .inl (cI, 40, .inl (fun _ => 0))), (q_10, .inl (cI, 40, .inl (fun _ => 0))), (q_12, .inl (cI, 480, .inl (fun _ => 0))), (mh, .inr (2, [.int 0, .int 0, .int (-1), .ref q_4, .ref q_6, .ref q_8, .ref q_10, .ref q_12, .long 0])), (q_4, .inl (cI, 6, .inl (ov (fun _ => 0) 6 0))), (q_6, .inl (cI, 6, .inl (ov (fun _ => 0) 6 (-1))))] H_15 := hP2
  replace hD : va_D A [(q_8, .inl (cI, 40, .inl (fun _ => 0))), (q_10, .inl (cI, 40, .inl (fun _ => 0))), (q_12, .inl (cI, 480, .inl (fun _ => 0))), (mh, .inr (2, [.int 0, .int 0, .int (-1), .ref q_4, .ref q_6, .ref q_8, .ref q_10, .ref q_12, .long 0])), (q_4, .inl (cI, 6, .inl (ov (fun _ => 0) 6 0))), (q_6, .inl (cI, 6, .inl (ov (fun _ => 0) 6 (-1))))] := hD2
  replace hS := hS1
  clear hP2 hD2 hS1
  have hP9 := hP.sub (ws' := [(mh, .inr (2, [.int 0, .int 0, .int (-1), .ref q_4, .ref q_6, .ref q_8, .ref q_10, .ref q_12, .long 0])), (q_4, .inl (cI, 6, .inl (ov (fun _ => 0) 6 0))), (q_6, .inl (cI, 6, .inl (ov (fun _ => 0) 6 (-1)))), (q_8, .inl (cI, 40, .inl (fun _ => 0))), (q_10, .inl (cI, 40, .inl (fun _ => 0))), (q_12, .inl (cI, 480, .inl (fun _ => 0)))]) [3, 4, 5, 0, 1, 2] rfl
  have hD9 := hD.sub (ws' := [(mh, .inr (2, [.int 0, .int 0, .int (-1), .ref q_4, .ref q_6, .ref q_8, .ref q_10, .ref q_12, .long 0])), (q_4, .inl (cI, 6, .inl (ov (fun _ => 0) 6 0))), (q_6, .inl (cI, 6, .inl (ov (fun _ => 0) 6 (-1)))), (q_8, .inl (cI, 40, .inl (fun _ => 0))), (q_10, .inl (cI, 40, .inl (fun _ => 0))), (q_12, .inl (cI, 480, .inl (fun _ => 0)))]) [3, 4, 5, 0, 1, 2] (by decide) rfl
  refine W.widen (k := 5) (n := 572) (Nat.le_of_ble_eq_true rfl) (Nat.le_of_ble_eq_true rfl) ?_
  exact W.vret hx hb hr (fun t ht hW => ⟨⟨(fun k => match k with | 0 => q_4 | 1 => q_6 | 2 => q_8 | 3 => q_10 | 4 => q_12 | _ => 0), rfl, trivial, by rw [ht]; exact hP9, va_K.moved hW.alike hK, hD9⟩, hS.F ht⟩) hS.2.2 dX2_init_69
end
section
def w_X3_isAct : List Cond := .code yX3_isAct cX3_isAct 6 (some .boolean) :: ([.code yX4_isVariable cX4_isVariable 1 (some .boolean), .initialized RX4, .static yX4_isVariable, .code yX4_isNumber cX4_isNumber 1 (some .boolean), .constant RX4 204 (-1000000), .constant RX4 205 (1000000), .static yX4_isNumber, .code yX4_isReference cX4_isReference 1 (some .boolean), .static yX4_isReference, .code yX4_isLane cX4_isLane 1 (some .boolean), .static yX4_isLane])
set_option maxRecDepth 20000 in
theorem g_X3_isAct_X4_isVariable_23 : GoodIn w_X3_isAct (w_X4_isVariable) := goodIn_r _ [1] (by decide +kernel) (by decide +kernel)
set_option maxRecDepth 20000 in
theorem g_X3_isAct_X4_isNumber_27 : GoodIn w_X3_isAct (w_X4_isNumber) := goodIn_r _ [4, 5, 6] (by decide +kernel) (by decide +kernel)
set_option maxRecDepth 20000 in
theorem g_X3_isAct_X4_isReference_30 : GoodIn w_X3_isAct (w_X4_isReference) := goodIn_r _ [8] (by decide +kernel) (by decide +kernel)
set_option maxRecDepth 20000 in
theorem g_X3_isAct_X4_isLane_33 : GoodIn w_X3_isAct (w_X4_isLane) := goodIn_r _ [10] (by decide +kernel) (by decide +kernel)
abbrev pw_X3_isAct (cI cJ cZ : ClassId) (ka : Int32) (aa : Int32) (ba : Int32) (ca : Int32) (da : Int32) (ea : Int32) : va_W := []
set_option maxHeartbeats 4000000 in
set_option maxRecDepth 100000 in
theorem c_X3_isAct (l : Launch) (dC : Nat → ClassId) (dI : Nat → Nat → Nat) (cI cJ cZ : ClassId) (ka : Int32) (aa : Int32) (ba : Int32) (ca : Int32) (da : Int32) (ea : Int32) (sz : Nat) : Met l yX3_isAct w_X3_isAct ({ frames := 1, cells := 0, slots := 0, locals := 20 }) (va_Pc [.int ka, .int aa, .int ba, .int ca, .int da, .int ea] (cPre dC dI cI cJ cZ sz (pw_X3_isAct cI cJ cZ ka aa ba ca da ea))) (va_Qi (fun (r : Int32) (u : Nat → Nat) => two r (okP ka aa ba ca da ea) 1 0) (fun (u : Nat → Nat) => cPost dC dI cI cJ cZ (va_A (pw_X3_isAct cI cJ cZ ka aa ba ca da ea) sz) []) (va_A (pw_X3_isAct cI cJ cZ ka aa ba ca da ea) sz)) 0 0 (va_A (pw_X3_isAct cI cJ cZ ka aa ba ca da ea) sz) := by
  refine Met.ofW (cc := cX3_isAct) (maxL := 6) (ret := (some .boolean)) (by decide) rfl ?_
  intro p e s m args below meth c s₁ B hml hv
  obtain ⟨rfl, hsz, hP, hK, hD0, hN⟩ := hv
  have hx := B.exec
  have hb := B.bytes
  have hr := B.returns
  have hts := atoms_spec (ws := w_X3_isAct) B.pre
  have hown : s.vm.findClass RX3 = some m.cls := findClass_of_methodNamed B.named
  have hlocks := B.notSynchronized
  subst hsz
  have hD := hD0.self (sz := s.heap.size)
  generalize hAe : va_A (pw_X3_isAct cI cJ cZ ka aa ba ca da ea) s.heap.size = A at hD ⊢
  have hA : ∀ q : Nat, s.heap.size ≤ q → A q := fun q h => by rw [← hAe]; exact Or.inr h
  clear hAe hD0
  have hS : va_S A s.heap s.heap [] := va_S.rf
  replace hP : va_P (dC, dI) vwCl [] s.heap := hP
  replace hD : va_D A [] := hD
  have hl := lv_entry ([.int ka, .int aa, .int ba, .int ca, .int da, .int ea]) (n := 6) (Nat.le_of_ble_eq_true rfl)
  rw [lg_entry_eq]
  generalize (lg_sl ([.int ka, .int aa, .int ba, .int ca, .int da, .int ea]) ++ List.replicate (6 - (lg_sl ([.int ka, .int aa, .int ba, .int ca, .int da, .int ea])).length) Slot.unset).toArray = ls at hl ⊢
  replace hl : lv_has ls 6 [(0, .int ka), (1, .int aa), (2, .int ba), (3, .int ca), (4, .int da), (5, .int ea)] := hl
  refine lv_iload_n hx hb dX3_isAct_0 rfl (lv_at hl 0 rfl) ?_
  by_cases hk : ka.toInt < 0 ∨ 14 < ka.toInt
  · refine lv_tableOut (tgt := 427) hx hb dX3_isAct_1 hk (by decide) ?_
    refine lv_iconst (v := 0) hx hb dX3_isAct_427 (by decide) ?_
    have hP9 := hP.sub (ws' := []) [] rfl
    have hD9 := hD.sub (ws' := []) [] (by decide) rfl
    exact W.zret (v := 0) (ty := .boolean) hx hb hr rfl (fun t ht hW => ⟨⟨0, (fun _ => 0), rfl, (Or.inr ⟨rfl, okP_out hk⟩), by rw [ht]; exact hP9, va_K.moved hW.alike hK, hD9⟩, hS.F ht⟩) hS.2.2 dX3_isAct_428
  · have hk2 : ka.toInt = 0 ∨ ka.toInt = 1 ∨ ka.toInt = 2 ∨ ka.toInt = 3 ∨ ka.toInt = 4 ∨ ka.toInt = 5 ∨ ka.toInt = 6 ∨ ka.toInt = 7 ∨ ka.toInt = 8 ∨ ka.toInt = 9 ∨ ka.toInt = 10 ∨ ka.toInt = 11 ∨ ka.toInt = 12 ∨ ka.toInt = 13 ∨ ka.toInt = 14 := by omega
    rcases hk2 with hk3 | hk3 | hk3 | hk3 | hk3 | hk3 | hk3 | hk3 | hk3 | hk3 | hk3 | hk3 | hk3 | hk3 | hk3
    · refine lv_tableIn (tgt := 76) (off := 75) hx hb dX3_isAct_1 (by omega) (by omega) (by rw [hk3]; rfl) (by decide) ?_
      refine lv_iload_n hx hb dX3_isAct_76 rfl (lv_at hl 1 rfl) ?_
      refine vp_callSi (va_runSN (As := [.int aa]) (rest := []) ⟨hx, hb, hml, hown, hts⟩ (c_X4_isVariable l aa) (⟨va_cnB 1 hts g_X3_isAct_X4_isVariable_23 rfl rfl rfl (hN.2.2.2.1) (hts (.initialized RX4) (List.mem_of_getElem? (i := 2) rfl)) (by decide +kernel) ⟨Nat.le_of_ble_eq_true rfl, Nat.le_of_ble_eq_true rfl⟩, hts (.static yX4_isVariable) (List.mem_of_getElem? (i := 3) rfl), trivial⟩) ⟨fun _ _ _ _ q => q, fun _ _ _ => ⟨rfl, trivial⟩⟩ rfl rfl hl.1 rfl (lv_room (Nat.le_of_ble_eq_true rfl)) dX3_isAct_77 ⟨Nat.le_of_ble_eq_true rfl, Nat.le_of_ble_eq_true rfl⟩).run (fun r_1 hw_1 => ?_)
      refine lv_if_eq (tgt := 94) hx hb dX3_isAct_80 (by decide) (fun c_2 => ?_) (fun c_2 => ?_)
      · -- yes
        have k_2 : ¬ (V6 aa) := two_z hw_1 c_2
        refine lv_iconst (v := 0) hx hb dX3_isAct_94 (by decide) ?_
        have hP9 := hP.sub (ws' := []) [] rfl
        have hD9 := hD.sub (ws' := []) [] (by decide) rfl
        exact W.zret (v := 0) (ty := .boolean) hx hb hr rfl (fun t ht hW => ⟨⟨0, (fun _ => 0), rfl, (Or.inr ⟨rfl, fun h9 => by have h8 := (okP_0 hk3).mp h9; omega⟩), by rw [ht]; exact hP9, va_K.moved hW.alike hK, hD9⟩, hS.F ht⟩) hS.2.2 dX3_isAct_95
      · -- no
        have k_2 : V6 aa := two_nz hw_1 c_2
        refine lv_iload_n hx hb dX3_isAct_83 rfl (lv_at hl 2 rfl) ?_
        refine vp_callSi (va_runSN (As := [.int ba]) (rest := []) ⟨hx, hb, hml, hown, hts⟩ (c_X4_isNumber l ba) (⟨va_cnB 1 hts g_X3_isAct_X4_isNumber_27 rfl rfl rfl (hN.2.2.2.2.1) (hts (.initialized RX4) (List.mem_of_getElem? (i := 2) rfl)) (by decide +kernel) ⟨Nat.le_of_ble_eq_true rfl, Nat.le_of_ble_eq_true rfl⟩, hts (.static yX4_isNumber) (List.mem_of_getElem? (i := 7) rfl), trivial⟩) ⟨fun _ _ _ _ q => q, fun _ _ _ => ⟨rfl, trivial⟩⟩ rfl rfl hl.1 rfl (lv_room (Nat.le_of_ble_eq_true rfl)) dX3_isAct_84 ⟨Nat.le_of_ble_eq_true rfl, Nat.le_of_ble_eq_true rfl⟩).run (fun r_3 hw_3 => ?_)
        refine lv_if_eq (tgt := 94) hx hb dX3_isAct_87 (by decide) (fun c_4 => ?_) (fun c_4 => ?_)
        · -- yes
          have k_4 : ¬ (VN ba) := two_z hw_3 c_4
          refine lv_iconst (v := 0) hx hb dX3_isAct_94 (by decide) ?_
          have hP9 := hP.sub (ws' := []) [] rfl
          have hD9 := hD.sub (ws' := []) [] (by decide) rfl
          exact W.zret (v := 0) (ty := .boolean) hx hb hr rfl (fun t ht hW => ⟨⟨0, (fun _ => 0), rfl, (Or.inr ⟨rfl, fun h9 => by have h8 := (okP_0 hk3).mp h9; omega⟩), by rw [ht]; exact hP9, va_K.moved hW.alike hK, hD9⟩, hS.F ht⟩) hS.2.2 dX3_isAct_95
        · -- no
          have k_4 : VN ba := two_nz hw_3 c_4
          refine lv_iconst (v := 1) hx hb dX3_isAct_90 (by decide) ?_
          refine lv_goto (tgt := 95) hx hb dX3_isAct_91 (by decide) ?_
          have hP9 := hP.sub (ws' := []) [] rfl
          have hD9 := hD.sub (ws' := []) [] (by decide) rfl
          exact W.zret (v := 1) (ty := .boolean) hx hb hr rfl (fun t ht hW => ⟨⟨1, (fun _ => 0), rfl, (Or.inl ⟨rfl, (okP_0 hk3).mpr (by omega)⟩), by rw [ht]; exact hP9, va_K.moved hW.alike hK, hD9⟩, hS.F ht⟩) hS.2.2 dX3_isAct_95
    · refine lv_tableIn (tgt := 96) (off := 95) hx hb dX3_isAct_1 (by omega) (by omega) (by rw [hk3]; rfl) (by decide) ?_
      refine lv_iload_n hx hb dX3_isAct_96 rfl (lv_at hl 1 rfl) ?_
      refine vp_callSi (va_runSN (As := [.int aa]) (rest := []) ⟨hx, hb, hml, hown, hts⟩ (c_X4_isVariable l aa) (⟨va_cnB 1 hts g_X3_isAct_X4_isVariable_23 rfl rfl rfl (hN.2.2.2.1) (hts (.initialized RX4) (List.mem_of_getElem? (i := 2) rfl)) (by decide +kernel) ⟨Nat.le_of_ble_eq_true rfl, Nat.le_of_ble_eq_true rfl⟩, hts (.static yX4_isVariable) (List.mem_of_getElem? (i := 3) rfl), trivial⟩) ⟨fun _ _ _ _ q => q, fun _ _ _ => ⟨rfl, trivial⟩⟩ rfl rfl hl.1 rfl (lv_room (Nat.le_of_ble_eq_true rfl)) dX3_isAct_97 ⟨Nat.le_of_ble_eq_true rfl, Nat.le_of_ble_eq_true rfl⟩).run (fun r_5 hw_5 => ?_)
      refine lv_if_eq (tgt := 126) hx hb dX3_isAct_100 (by decide) (fun c_6 => ?_) (fun c_6 => ?_)
      · -- yes
        have k_6 : ¬ (V6 aa) := two_z hw_5 c_6
        refine lv_iconst (v := 0) hx hb dX3_isAct_126 (by decide) ?_
        have hP9 := hP.sub (ws' := []) [] rfl
        have hD9 := hD.sub (ws' := []) [] (by decide) rfl
        exact W.zret (v := 0) (ty := .boolean) hx hb hr rfl (fun t ht hW => ⟨⟨0, (fun _ => 0), rfl, (Or.inr ⟨rfl, fun h9 => by have h8 := (okP_1 hk3).mp h9; omega⟩), by rw [ht]; exact hP9, va_K.moved hW.alike hK, hD9⟩, hS.F ht⟩) hS.2.2 dX3_isAct_127
      · -- no
        have k_6 : V6 aa := two_nz hw_5 c_6
        refine lv_iload_n hx hb dX3_isAct_103 rfl (lv_at hl 2 rfl) ?_
        refine vp_callSi (va_runSN (As := [.int ba]) (rest := []) ⟨hx, hb, hml, hown, hts⟩ (c_X4_isNumber l ba) (⟨va_cnB 1 hts g_X3_isAct_X4_isNumber_27 rfl rfl rfl (hN.2.2.2.2.1) (hts (.initialized RX4) (List.mem_of_getElem? (i := 2) rfl)) (by decide +kernel) ⟨Nat.le_of_ble_eq_true rfl, Nat.le_of_ble_eq_true rfl⟩, hts (.static yX4_isNumber) (List.mem_of_getElem? (i := 7) rfl), trivial⟩) ⟨fun _ _ _ _ q => q, fun _ _ _ => ⟨rfl, trivial⟩⟩ rfl rfl hl.1 rfl (lv_room (Nat.le_of_ble_eq_true rfl)) dX3_isAct_104 ⟨Nat.le_of_ble_eq_true rfl, Nat.le_of_ble_eq_true rfl⟩).run (fun r_7 hw_7 => ?_)
        refine lv_if_eq (tgt := 126) hx hb dX3_isAct_107 (by decide) (fun c_8 => ?_) (fun c_8 => ?_)
        · -- yes
          have k_8 : ¬ (VN ba) := two_z hw_7 c_8
          refine lv_iconst (v := 0) hx hb dX3_isAct_126 (by decide) ?_
          have hP9 := hP.sub (ws' := []) [] rfl
          have hD9 := hD.sub (ws' := []) [] (by decide) rfl
          exact W.zret (v := 0) (ty := .boolean) hx hb hr rfl (fun t ht hW => ⟨⟨0, (fun _ => 0), rfl, (Or.inr ⟨rfl, fun h9 => by have h8 := (okP_1 hk3).mp h9; omega⟩), by rw [ht]; exact hP9, va_K.moved hW.alike hK, hD9⟩, hS.F ht⟩) hS.2.2 dX3_isAct_127
        · -- no
          have k_8 : VN ba := two_nz hw_7 c_8
          refine lv_iload_n hx hb dX3_isAct_110 rfl (lv_at hl 3 rfl) ?_
          refine vp_callSi (va_runSN (As := [.int ca]) (rest := []) ⟨hx, hb, hml, hown, hts⟩ (c_X4_isNumber l ca) (⟨va_cnB 1 hts g_X3_isAct_X4_isNumber_27 rfl rfl rfl (hN.2.2.2.2.1) (hts (.initialized RX4) (List.mem_of_getElem? (i := 2) rfl)) (by decide +kernel) ⟨Nat.le_of_ble_eq_true rfl, Nat.le_of_ble_eq_true rfl⟩, hts (.static yX4_isNumber) (List.mem_of_getElem? (i := 7) rfl), trivial⟩) ⟨fun _ _ _ _ q => q, fun _ _ _ => ⟨rfl, trivial⟩⟩ rfl rfl hl.1 rfl (lv_room (Nat.le_of_ble_eq_true rfl)) dX3_isAct_111 ⟨Nat.le_of_ble_eq_true rfl, Nat.le_of_ble_eq_true rfl⟩).run (fun r_9 hw_9 => ?_)
          refine lv_if_eq (tgt := 126) hx hb dX3_isAct_114 (by decide) (fun c_10 => ?_) (fun c_10 => ?_)
          · -- yes
            have k_10 : ¬ (VN ca) := two_z hw_9 c_10
            refine lv_iconst (v := 0) hx hb dX3_isAct_126 (by decide) ?_
            have hP9 := hP.sub (ws' := []) [] rfl
            have hD9 := hD.sub (ws' := []) [] (by decide) rfl
            exact W.zret (v := 0) (ty := .boolean) hx hb hr rfl (fun t ht hW => ⟨⟨0, (fun _ => 0), rfl, (Or.inr ⟨rfl, fun h9 => by have h8 := (okP_1 hk3).mp h9; omega⟩), by rw [ht]; exact hP9, va_K.moved hW.alike hK, hD9⟩, hS.F ht⟩) hS.2.2 dX3_isAct_127
          · -- no
            have k_10 : VN ca := two_nz hw_9 c_10
            refine lv_iload_n hx hb dX3_isAct_117 rfl (lv_at hl 2 rfl) ?_
            refine lv_iload_n hx hb dX3_isAct_118 rfl (lv_at hl 3 rfl) ?_
            refine lv_icmp_gt (tgt := 126) hx hb dX3_isAct_119 (by decide) (fun c_11 => ?_) (fun c_11 => ?_)
            · -- yes
              have k_11 : (ca.toInt : Int) < (ba.toInt : Int) := by first | exact lt_i c_11 | simpa using lt_i c_11
              refine lv_iconst (v := 0) hx hb dX3_isAct_126 (by decide) ?_
              have hP9 := hP.sub (ws' := []) [] rfl
              have hD9 := hD.sub (ws' := []) [] (by decide) rfl
              exact W.zret (v := 0) (ty := .boolean) hx hb hr rfl (fun t ht hW => ⟨⟨0, (fun _ => 0), rfl, (Or.inr ⟨rfl, fun h9 => by have h8 := (okP_1 hk3).mp h9; omega⟩), by rw [ht]; exact hP9, va_K.moved hW.alike hK, hD9⟩, hS.F ht⟩) hS.2.2 dX3_isAct_127
            · -- no
              have k_11 : (ba.toInt : Int) ≤ (ca.toInt : Int) := by first | exact nlt_i c_11 | simpa using nlt_i c_11
              refine lv_iconst (v := 1) hx hb dX3_isAct_122 (by decide) ?_
              refine lv_goto (tgt := 127) hx hb dX3_isAct_123 (by decide) ?_
              have hP9 := hP.sub (ws' := []) [] rfl
              have hD9 := hD.sub (ws' := []) [] (by decide) rfl
              exact W.zret (v := 1) (ty := .boolean) hx hb hr rfl (fun t ht hW => ⟨⟨1, (fun _ => 0), rfl, (Or.inl ⟨rfl, (okP_1 hk3).mpr (by omega)⟩), by rw [ht]; exact hP9, va_K.moved hW.alike hK, hD9⟩, hS.F ht⟩) hS.2.2 dX3_isAct_127
    · refine lv_tableIn (tgt := 128) (off := 127) hx hb dX3_isAct_1 (by omega) (by omega) (by rw [hk3]; rfl) (by decide) ?_
      refine lv_iload_n hx hb dX3_isAct_128 rfl (lv_at hl 1 rfl) ?_
      refine vp_callSi (va_runSN (As := [.int aa]) (rest := []) ⟨hx, hb, hml, hown, hts⟩ (c_X4_isVariable l aa) (⟨va_cnB 1 hts g_X3_isAct_X4_isVariable_23 rfl rfl rfl (hN.2.2.2.1) (hts (.initialized RX4) (List.mem_of_getElem? (i := 2) rfl)) (by decide +kernel) ⟨Nat.le_of_ble_eq_true rfl, Nat.le_of_ble_eq_true rfl⟩, hts (.static yX4_isVariable) (List.mem_of_getElem? (i := 3) rfl), trivial⟩) ⟨fun _ _ _ _ q => q, fun _ _ _ => ⟨rfl, trivial⟩⟩ rfl rfl hl.1 rfl (lv_room (Nat.le_of_ble_eq_true rfl)) dX3_isAct_129 ⟨Nat.le_of_ble_eq_true rfl, Nat.le_of_ble_eq_true rfl⟩).run (fun r_12 hw_12 => ?_)
      refine lv_if_eq (tgt := 153) hx hb dX3_isAct_132 (by decide) (fun c_13 => ?_) (fun c_13 => ?_)
      · -- yes
        have k_13 : ¬ (V6 aa) := two_z hw_12 c_13
        refine lv_iconst (v := 0) hx hb dX3_isAct_153 (by decide) ?_
        have hP9 := hP.sub (ws' := []) [] rfl
        have hD9 := hD.sub (ws' := []) [] (by decide) rfl
        exact W.zret (v := 0) (ty := .boolean) hx hb hr rfl (fun t ht hW => ⟨⟨0, (fun _ => 0), rfl, (Or.inr ⟨rfl, fun h9 => by have h8 := (okP_2 hk3).mp h9; omega⟩), by rw [ht]; exact hP9, va_K.moved hW.alike hK, hD9⟩, hS.F ht⟩) hS.2.2 dX3_isAct_154
      · -- no
        have k_13 : V6 aa := two_nz hw_12 c_13
        refine lv_iload_n hx hb dX3_isAct_135 rfl (lv_at hl 2 rfl) ?_
        refine vp_callSi (va_runSN (As := [.int ba]) (rest := []) ⟨hx, hb, hml, hown, hts⟩ (c_X4_isVariable l ba) (⟨va_cnB 1 hts g_X3_isAct_X4_isVariable_23 rfl rfl rfl (hN.2.2.2.1) (hts (.initialized RX4) (List.mem_of_getElem? (i := 2) rfl)) (by decide +kernel) ⟨Nat.le_of_ble_eq_true rfl, Nat.le_of_ble_eq_true rfl⟩, hts (.static yX4_isVariable) (List.mem_of_getElem? (i := 3) rfl), trivial⟩) ⟨fun _ _ _ _ q => q, fun _ _ _ => ⟨rfl, trivial⟩⟩ rfl rfl hl.1 rfl (lv_room (Nat.le_of_ble_eq_true rfl)) dX3_isAct_136 ⟨Nat.le_of_ble_eq_true rfl, Nat.le_of_ble_eq_true rfl⟩).run (fun r_14 hw_14 => ?_)
        refine lv_if_eq (tgt := 153) hx hb dX3_isAct_139 (by decide) (fun c_15 => ?_) (fun c_15 => ?_)
        · -- yes
          have k_15 : ¬ (V6 ba) := two_z hw_14 c_15
          refine lv_iconst (v := 0) hx hb dX3_isAct_153 (by decide) ?_
          have hP9 := hP.sub (ws' := []) [] rfl
          have hD9 := hD.sub (ws' := []) [] (by decide) rfl
          exact W.zret (v := 0) (ty := .boolean) hx hb hr rfl (fun t ht hW => ⟨⟨0, (fun _ => 0), rfl, (Or.inr ⟨rfl, fun h9 => by have h8 := (okP_2 hk3).mp h9; omega⟩), by rw [ht]; exact hP9, va_K.moved hW.alike hK, hD9⟩, hS.F ht⟩) hS.2.2 dX3_isAct_154
        · -- no
          have k_15 : V6 ba := two_nz hw_14 c_15
          refine lv_iload_n hx hb dX3_isAct_142 rfl (lv_at hl 3 rfl) ?_
          refine vp_callSi (va_runSN (As := [.int ca]) (rest := []) ⟨hx, hb, hml, hown, hts⟩ (c_X4_isVariable l ca) (⟨va_cnB 1 hts g_X3_isAct_X4_isVariable_23 rfl rfl rfl (hN.2.2.2.1) (hts (.initialized RX4) (List.mem_of_getElem? (i := 2) rfl)) (by decide +kernel) ⟨Nat.le_of_ble_eq_true rfl, Nat.le_of_ble_eq_true rfl⟩, hts (.static yX4_isVariable) (List.mem_of_getElem? (i := 3) rfl), trivial⟩) ⟨fun _ _ _ _ q => q, fun _ _ _ => ⟨rfl, trivial⟩⟩ rfl rfl hl.1 rfl (lv_room (Nat.le_of_ble_eq_true rfl)) dX3_isAct_143 ⟨Nat.le_of_ble_eq_true rfl, Nat.le_of_ble_eq_true rfl⟩).run (fun r_16 hw_16 => ?_)
          refine lv_if_eq (tgt := 153) hx hb dX3_isAct_146 (by decide) (fun c_17 => ?_) (fun c_17 => ?_)
          · -- yes
            have k_17 : ¬ (V6 ca) := two_z hw_16 c_17
            refine lv_iconst (v := 0) hx hb dX3_isAct_153 (by decide) ?_
            have hP9 := hP.sub (ws' := []) [] rfl
            have hD9 := hD.sub (ws' := []) [] (by decide) rfl
            exact W.zret (v := 0) (ty := .boolean) hx hb hr rfl (fun t ht hW => ⟨⟨0, (fun _ => 0), rfl, (Or.inr ⟨rfl, fun h9 => by have h8 := (okP_2 hk3).mp h9; omega⟩), by rw [ht]; exact hP9, va_K.moved hW.alike hK, hD9⟩, hS.F ht⟩) hS.2.2 dX3_isAct_154
          · -- no
            have k_17 : V6 ca := two_nz hw_16 c_17
            refine lv_iconst (v := 1) hx hb dX3_isAct_149 (by decide) ?_
            refine lv_goto (tgt := 154) hx hb dX3_isAct_150 (by decide) ?_
            have hP9 := hP.sub (ws' := []) [] rfl
            have hD9 := hD.sub (ws' := []) [] (by decide) rfl
            exact W.zret (v := 1) (ty := .boolean) hx hb hr rfl (fun t ht hW => ⟨⟨1, (fun _ => 0), rfl, (Or.inl ⟨rfl, (okP_2 hk3).mpr (by omega)⟩), by rw [ht]; exact hP9, va_K.moved hW.alike hK, hD9⟩, hS.F ht⟩) hS.2.2 dX3_isAct_154
    · refine lv_tableIn (tgt := 128) (off := 127) hx hb dX3_isAct_1 (by omega) (by omega) (by rw [hk3]; rfl) (by decide) ?_
      refine lv_iload_n hx hb dX3_isAct_128 rfl (lv_at hl 1 rfl) ?_
      refine vp_callSi (va_runSN (As := [.int aa]) (rest := []) ⟨hx, hb, hml, hown, hts⟩ (c_X4_isVariable l aa) (⟨va_cnB 1 hts g_X3_isAct_X4_isVariable_23 rfl rfl rfl (hN.2.2.2.1) (hts (.initialized RX4) (List.mem_of_getElem? (i := 2) rfl)) (by decide +kernel) ⟨Nat.le_of_ble_eq_true rfl, Nat.le_of_ble_eq_true rfl⟩, hts (.static yX4_isVariable) (List.mem_of_getElem? (i := 3) rfl), trivial⟩) ⟨fun _ _ _ _ q => q, fun _ _ _ => ⟨rfl, trivial⟩⟩ rfl rfl hl.1 rfl (lv_room (Nat.le_of_ble_eq_true rfl)) dX3_isAct_129 ⟨Nat.le_of_ble_eq_true rfl, Nat.le_of_ble_eq_true rfl⟩).run (fun r_18 hw_18 => ?_)
      refine lv_if_eq (tgt := 153) hx hb dX3_isAct_132 (by decide) (fun c_19 => ?_) (fun c_19 => ?_)
      · -- yes
        have k_19 : ¬ (V6 aa) := two_z hw_18 c_19
        refine lv_iconst (v := 0) hx hb dX3_isAct_153 (by decide) ?_
        have hP9 := hP.sub (ws' := []) [] rfl
        have hD9 := hD.sub (ws' := []) [] (by decide) rfl
        exact W.zret (v := 0) (ty := .boolean) hx hb hr rfl (fun t ht hW => ⟨⟨0, (fun _ => 0), rfl, (Or.inr ⟨rfl, fun h9 => by have h8 := (okP_3 hk3).mp h9; omega⟩), by rw [ht]; exact hP9, va_K.moved hW.alike hK, hD9⟩, hS.F ht⟩) hS.2.2 dX3_isAct_154
      · -- no
        have k_19 : V6 aa := two_nz hw_18 c_19
        refine lv_iload_n hx hb dX3_isAct_135 rfl (lv_at hl 2 rfl) ?_
        refine vp_callSi (va_runSN (As := [.int ba]) (rest := []) ⟨hx, hb, hml, hown, hts⟩ (c_X4_isVariable l ba) (⟨va_cnB 1 hts g_X3_isAct_X4_isVariable_23 rfl rfl rfl (hN.2.2.2.1) (hts (.initialized RX4) (List.mem_of_getElem? (i := 2) rfl)) (by decide +kernel) ⟨Nat.le_of_ble_eq_true rfl, Nat.le_of_ble_eq_true rfl⟩, hts (.static yX4_isVariable) (List.mem_of_getElem? (i := 3) rfl), trivial⟩) ⟨fun _ _ _ _ q => q, fun _ _ _ => ⟨rfl, trivial⟩⟩ rfl rfl hl.1 rfl (lv_room (Nat.le_of_ble_eq_true rfl)) dX3_isAct_136 ⟨Nat.le_of_ble_eq_true rfl, Nat.le_of_ble_eq_true rfl⟩).run (fun r_20 hw_20 => ?_)
        refine lv_if_eq (tgt := 153) hx hb dX3_isAct_139 (by decide) (fun c_21 => ?_) (fun c_21 => ?_)
        · -- yes
          have k_21 : ¬ (V6 ba) := two_z hw_20 c_21
          refine lv_iconst (v := 0) hx hb dX3_isAct_153 (by decide) ?_
          have hP9 := hP.sub (ws' := []) [] rfl
          have hD9 := hD.sub (ws' := []) [] (by decide) rfl
          exact W.zret (v := 0) (ty := .boolean) hx hb hr rfl (fun t ht hW => ⟨⟨0, (fun _ => 0), rfl, (Or.inr ⟨rfl, fun h9 => by have h8 := (okP_3 hk3).mp h9; omega⟩), by rw [ht]; exact hP9, va_K.moved hW.alike hK, hD9⟩, hS.F ht⟩) hS.2.2 dX3_isAct_154
        · -- no
          have k_21 : V6 ba := two_nz hw_20 c_21
          refine lv_iload_n hx hb dX3_isAct_142 rfl (lv_at hl 3 rfl) ?_
          refine vp_callSi (va_runSN (As := [.int ca]) (rest := []) ⟨hx, hb, hml, hown, hts⟩ (c_X4_isVariable l ca) (⟨va_cnB 1 hts g_X3_isAct_X4_isVariable_23 rfl rfl rfl (hN.2.2.2.1) (hts (.initialized RX4) (List.mem_of_getElem? (i := 2) rfl)) (by decide +kernel) ⟨Nat.le_of_ble_eq_true rfl, Nat.le_of_ble_eq_true rfl⟩, hts (.static yX4_isVariable) (List.mem_of_getElem? (i := 3) rfl), trivial⟩) ⟨fun _ _ _ _ q => q, fun _ _ _ => ⟨rfl, trivial⟩⟩ rfl rfl hl.1 rfl (lv_room (Nat.le_of_ble_eq_true rfl)) dX3_isAct_143 ⟨Nat.le_of_ble_eq_true rfl, Nat.le_of_ble_eq_true rfl⟩).run (fun r_22 hw_22 => ?_)
          refine lv_if_eq (tgt := 153) hx hb dX3_isAct_146 (by decide) (fun c_23 => ?_) (fun c_23 => ?_)
          · -- yes
            have k_23 : ¬ (V6 ca) := two_z hw_22 c_23
            refine lv_iconst (v := 0) hx hb dX3_isAct_153 (by decide) ?_
            have hP9 := hP.sub (ws' := []) [] rfl
            have hD9 := hD.sub (ws' := []) [] (by decide) rfl
            exact W.zret (v := 0) (ty := .boolean) hx hb hr rfl (fun t ht hW => ⟨⟨0, (fun _ => 0), rfl, (Or.inr ⟨rfl, fun h9 => by have h8 := (okP_3 hk3).mp h9; omega⟩), by rw [ht]; exact hP9, va_K.moved hW.alike hK, hD9⟩, hS.F ht⟩) hS.2.2 dX3_isAct_154
          · -- no
            have k_23 : V6 ca := two_nz hw_22 c_23
            refine lv_iconst (v := 1) hx hb dX3_isAct_149 (by decide) ?_
            refine lv_goto (tgt := 154) hx hb dX3_isAct_150 (by decide) ?_
            have hP9 := hP.sub (ws' := []) [] rfl
            have hD9 := hD.sub (ws' := []) [] (by decide) rfl
            exact W.zret (v := 1) (ty := .boolean) hx hb hr rfl (fun t ht hW => ⟨⟨1, (fun _ => 0), rfl, (Or.inl ⟨rfl, (okP_3 hk3).mpr (by omega)⟩), by rw [ht]; exact hP9, va_K.moved hW.alike hK, hD9⟩, hS.F ht⟩) hS.2.2 dX3_isAct_154
    · refine lv_tableIn (tgt := 155) (off := 154) hx hb dX3_isAct_1 (by omega) (by omega) (by rw [hk3]; rfl) (by decide) ?_
      refine lv_iload_n hx hb dX3_isAct_155 rfl (lv_at hl 1 rfl) ?_
      refine vp_callSi (va_runSN (As := [.int aa]) (rest := []) ⟨hx, hb, hml, hown, hts⟩ (c_X4_isReference l aa) (⟨va_cnB 1 hts g_X3_isAct_X4_isReference_30 rfl rfl rfl (hN.2.2.2.2.2.1) (hts (.initialized RX4) (List.mem_of_getElem? (i := 2) rfl)) (by decide +kernel) ⟨Nat.le_of_ble_eq_true rfl, Nat.le_of_ble_eq_true rfl⟩, hts (.static yX4_isReference) (List.mem_of_getElem? (i := 9) rfl), trivial⟩) ⟨fun _ _ _ _ q => q, fun _ _ _ => ⟨rfl, trivial⟩⟩ rfl rfl hl.1 rfl (lv_room (Nat.le_of_ble_eq_true rfl)) dX3_isAct_156 ⟨Nat.le_of_ble_eq_true rfl, Nat.le_of_ble_eq_true rfl⟩).run (fun r_24 hw_24 => ?_)
      refine lv_if_eq (tgt := 180) hx hb dX3_isAct_159 (by decide) (fun c_25 => ?_) (fun c_25 => ?_)
      · -- yes
        have k_25 : ¬ (V6 aa) := two_z hw_24 c_25
        refine lv_iconst (v := 0) hx hb dX3_isAct_180 (by decide) ?_
        have hP9 := hP.sub (ws' := []) [] rfl
        have hD9 := hD.sub (ws' := []) [] (by decide) rfl
        exact W.zret (v := 0) (ty := .boolean) hx hb hr rfl (fun t ht hW => ⟨⟨0, (fun _ => 0), rfl, (Or.inr ⟨rfl, fun h9 => by have h8 := (okP_4 hk3).mp h9; omega⟩), by rw [ht]; exact hP9, va_K.moved hW.alike hK, hD9⟩, hS.F ht⟩) hS.2.2 dX3_isAct_181
      · -- no
        have k_25 : V6 aa := two_nz hw_24 c_25
        refine lv_iload_n hx hb dX3_isAct_162 rfl (lv_at hl 2 rfl) ?_
        refine vp_callSi (va_runSN (As := [.int ba]) (rest := []) ⟨hx, hb, hml, hown, hts⟩ (c_X4_isLane l ba) (⟨va_cnB 1 hts g_X3_isAct_X4_isLane_33 rfl rfl rfl (hN.2.2.2.2.2.2) (hts (.initialized RX4) (List.mem_of_getElem? (i := 2) rfl)) (by decide +kernel) ⟨Nat.le_of_ble_eq_true rfl, Nat.le_of_ble_eq_true rfl⟩, hts (.static yX4_isLane) (List.mem_of_getElem? (i := 11) rfl), trivial⟩) ⟨fun _ _ _ _ q => q, fun _ _ _ => ⟨rfl, trivial⟩⟩ rfl rfl hl.1 rfl (lv_room (Nat.le_of_ble_eq_true rfl)) dX3_isAct_163 ⟨Nat.le_of_ble_eq_true rfl, Nat.le_of_ble_eq_true rfl⟩).run (fun r_26 hw_26 => ?_)
        refine lv_if_eq (tgt := 180) hx hb dX3_isAct_166 (by decide) (fun c_27 => ?_) (fun c_27 => ?_)
        · -- yes
          have k_27 : ¬ (V3 ba) := two_z hw_26 c_27
          refine lv_iconst (v := 0) hx hb dX3_isAct_180 (by decide) ?_
          have hP9 := hP.sub (ws' := []) [] rfl
          have hD9 := hD.sub (ws' := []) [] (by decide) rfl
          exact W.zret (v := 0) (ty := .boolean) hx hb hr rfl (fun t ht hW => ⟨⟨0, (fun _ => 0), rfl, (Or.inr ⟨rfl, fun h9 => by have h8 := (okP_4 hk3).mp h9; omega⟩), by rw [ht]; exact hP9, va_K.moved hW.alike hK, hD9⟩, hS.F ht⟩) hS.2.2 dX3_isAct_181
        · -- no
          have k_27 : V3 ba := two_nz hw_26 c_27
          refine lv_iload_n hx hb dX3_isAct_169 rfl (lv_at hl 3 rfl) ?_
          refine vp_callSi (va_runSN (As := [.int ca]) (rest := []) ⟨hx, hb, hml, hown, hts⟩ (c_X4_isVariable l ca) (⟨va_cnB 1 hts g_X3_isAct_X4_isVariable_23 rfl rfl rfl (hN.2.2.2.1) (hts (.initialized RX4) (List.mem_of_getElem? (i := 2) rfl)) (by decide +kernel) ⟨Nat.le_of_ble_eq_true rfl, Nat.le_of_ble_eq_true rfl⟩, hts (.static yX4_isVariable) (List.mem_of_getElem? (i := 3) rfl), trivial⟩) ⟨fun _ _ _ _ q => q, fun _ _ _ => ⟨rfl, trivial⟩⟩ rfl rfl hl.1 rfl (lv_room (Nat.le_of_ble_eq_true rfl)) dX3_isAct_170 ⟨Nat.le_of_ble_eq_true rfl, Nat.le_of_ble_eq_true rfl⟩).run (fun r_28 hw_28 => ?_)
          refine lv_if_eq (tgt := 180) hx hb dX3_isAct_173 (by decide) (fun c_29 => ?_) (fun c_29 => ?_)
          · -- yes
            have k_29 : ¬ (V6 ca) := two_z hw_28 c_29
            refine lv_iconst (v := 0) hx hb dX3_isAct_180 (by decide) ?_
            have hP9 := hP.sub (ws' := []) [] rfl
            have hD9 := hD.sub (ws' := []) [] (by decide) rfl
            exact W.zret (v := 0) (ty := .boolean) hx hb hr rfl (fun t ht hW => ⟨⟨0, (fun _ => 0), rfl, (Or.inr ⟨rfl, fun h9 => by have h8 := (okP_4 hk3).mp h9; omega⟩), by rw [ht]; exact hP9, va_K.moved hW.alike hK, hD9⟩, hS.F ht⟩) hS.2.2 dX3_isAct_181
          · -- no
            have k_29 : V6 ca := two_nz hw_28 c_29
            refine lv_iconst (v := 1) hx hb dX3_isAct_176 (by decide) ?_
            refine lv_goto (tgt := 181) hx hb dX3_isAct_177 (by decide) ?_
            have hP9 := hP.sub (ws' := []) [] rfl
            have hD9 := hD.sub (ws' := []) [] (by decide) rfl
            exact W.zret (v := 1) (ty := .boolean) hx hb hr rfl (fun t ht hW => ⟨⟨1, (fun _ => 0), rfl, (Or.inl ⟨rfl, (okP_4 hk3).mpr (by omega)⟩), by rw [ht]; exact hP9, va_K.moved hW.alike hK, hD9⟩, hS.F ht⟩) hS.2.2 dX3_isAct_181
    · refine lv_tableIn (tgt := 182) (off := 181) hx hb dX3_isAct_1 (by omega) (by omega) (by rw [hk3]; rfl) (by decide) ?_
      refine lv_iload_n hx hb dX3_isAct_182 rfl (lv_at hl 1 rfl) ?_
      refine vp_callSi (va_runSN (As := [.int aa]) (rest := []) ⟨hx, hb, hml, hown, hts⟩ (c_X4_isReference l aa) (⟨va_cnB 1 hts g_X3_isAct_X4_isReference_30 rfl rfl rfl (hN.2.2.2.2.2.1) (hts (.initialized RX4) (List.mem_of_getElem? (i := 2) rfl)) (by decide +kernel) ⟨Nat.le_of_ble_eq_true rfl, Nat.le_of_ble_eq_true rfl⟩, hts (.static yX4_isReference) (List.mem_of_getElem? (i := 9) rfl), trivial⟩) ⟨fun _ _ _ _ q => q, fun _ _ _ => ⟨rfl, trivial⟩⟩ rfl rfl hl.1 rfl (lv_room (Nat.le_of_ble_eq_true rfl)) dX3_isAct_183 ⟨Nat.le_of_ble_eq_true rfl, Nat.le_of_ble_eq_true rfl⟩).run (fun r_30 hw_30 => ?_)
      rcases hw_30 with ⟨rfl, k_31⟩ | ⟨rfl, k_31⟩
      · -- answer 1
        have hP9 := hP.sub (ws' := []) [] rfl
        have hD9 := hD.sub (ws' := []) [] (by decide) rfl
        exact W.zret (v := 1) (ty := .boolean) hx hb hr rfl (fun t ht hW => ⟨⟨1, (fun _ => 0), rfl, (Or.inl ⟨rfl, (okP_5 hk3).mpr (by omega)⟩), by rw [ht]; exact hP9, va_K.moved hW.alike hK, hD9⟩, hS.F ht⟩) hS.2.2 dX3_isAct_186
      · -- answer 0
        have hP9 := hP.sub (ws' := []) [] rfl
        have hD9 := hD.sub (ws' := []) [] (by decide) rfl
        exact W.zret (v := 0) (ty := .boolean) hx hb hr rfl (fun t ht hW => ⟨⟨0, (fun _ => 0), rfl, (Or.inr ⟨rfl, fun h9 => by have h8 := (okP_5 hk3).mp h9; omega⟩), by rw [ht]; exact hP9, va_K.moved hW.alike hK, hD9⟩, hS.F ht⟩) hS.2.2 dX3_isAct_186
    · refine lv_tableIn (tgt := 187) (off := 186) hx hb dX3_isAct_1 (by omega) (by omega) (by rw [hk3]; rfl) (by decide) ?_
      refine lv_iload_n hx hb dX3_isAct_187 rfl (lv_at hl 1 rfl) ?_
      refine vp_callSi (va_runSN (As := [.int aa]) (rest := []) ⟨hx, hb, hml, hown, hts⟩ (c_X4_isReference l aa) (⟨va_cnB 1 hts g_X3_isAct_X4_isReference_30 rfl rfl rfl (hN.2.2.2.2.2.1) (hts (.initialized RX4) (List.mem_of_getElem? (i := 2) rfl)) (by decide +kernel) ⟨Nat.le_of_ble_eq_true rfl, Nat.le_of_ble_eq_true rfl⟩, hts (.static yX4_isReference) (List.mem_of_getElem? (i := 9) rfl), trivial⟩) ⟨fun _ _ _ _ q => q, fun _ _ _ => ⟨rfl, trivial⟩⟩ rfl rfl hl.1 rfl (lv_room (Nat.le_of_ble_eq_true rfl)) dX3_isAct_188 ⟨Nat.le_of_ble_eq_true rfl, Nat.le_of_ble_eq_true rfl⟩).run (fun r_32 hw_32 => ?_)
      refine lv_if_eq (tgt := 205) hx hb dX3_isAct_191 (by decide) (fun c_33 => ?_) (fun c_33 => ?_)
      · -- yes
        have k_33 : ¬ (V6 aa) := two_z hw_32 c_33
        refine lv_iconst (v := 0) hx hb dX3_isAct_205 (by decide) ?_
        have hP9 := hP.sub (ws' := []) [] rfl
        have hD9 := hD.sub (ws' := []) [] (by decide) rfl
        exact W.zret (v := 0) (ty := .boolean) hx hb hr rfl (fun t ht hW => ⟨⟨0, (fun _ => 0), rfl, (Or.inr ⟨rfl, fun h9 => by have h8 := (okP_6 hk3).mp h9; omega⟩), by rw [ht]; exact hP9, va_K.moved hW.alike hK, hD9⟩, hS.F ht⟩) hS.2.2 dX3_isAct_206
      · -- no
        have k_33 : V6 aa := two_nz hw_32 c_33
        refine lv_iload_n hx hb dX3_isAct_194 rfl (lv_at hl 2 rfl) ?_
        refine vp_callSi (va_runSN (As := [.int ba]) (rest := []) ⟨hx, hb, hml, hown, hts⟩ (c_X4_isReference l ba) (⟨va_cnB 1 hts g_X3_isAct_X4_isReference_30 rfl rfl rfl (hN.2.2.2.2.2.1) (hts (.initialized RX4) (List.mem_of_getElem? (i := 2) rfl)) (by decide +kernel) ⟨Nat.le_of_ble_eq_true rfl, Nat.le_of_ble_eq_true rfl⟩, hts (.static yX4_isReference) (List.mem_of_getElem? (i := 9) rfl), trivial⟩) ⟨fun _ _ _ _ q => q, fun _ _ _ => ⟨rfl, trivial⟩⟩ rfl rfl hl.1 rfl (lv_room (Nat.le_of_ble_eq_true rfl)) dX3_isAct_195 ⟨Nat.le_of_ble_eq_true rfl, Nat.le_of_ble_eq_true rfl⟩).run (fun r_34 hw_34 => ?_)
        refine lv_if_eq (tgt := 205) hx hb dX3_isAct_198 (by decide) (fun c_35 => ?_) (fun c_35 => ?_)
        · -- yes
          have k_35 : ¬ (V6 ba) := two_z hw_34 c_35
          refine lv_iconst (v := 0) hx hb dX3_isAct_205 (by decide) ?_
          have hP9 := hP.sub (ws' := []) [] rfl
          have hD9 := hD.sub (ws' := []) [] (by decide) rfl
          exact W.zret (v := 0) (ty := .boolean) hx hb hr rfl (fun t ht hW => ⟨⟨0, (fun _ => 0), rfl, (Or.inr ⟨rfl, fun h9 => by have h8 := (okP_6 hk3).mp h9; omega⟩), by rw [ht]; exact hP9, va_K.moved hW.alike hK, hD9⟩, hS.F ht⟩) hS.2.2 dX3_isAct_206
        · -- no
          have k_35 : V6 ba := two_nz hw_34 c_35
          refine lv_iconst (v := 1) hx hb dX3_isAct_201 (by decide) ?_
          refine lv_goto (tgt := 206) hx hb dX3_isAct_202 (by decide) ?_
          have hP9 := hP.sub (ws' := []) [] rfl
          have hD9 := hD.sub (ws' := []) [] (by decide) rfl
          exact W.zret (v := 1) (ty := .boolean) hx hb hr rfl (fun t ht hW => ⟨⟨1, (fun _ => 0), rfl, (Or.inl ⟨rfl, (okP_6 hk3).mpr (by omega)⟩), by rw [ht]; exact hP9, va_K.moved hW.alike hK, hD9⟩, hS.F ht⟩) hS.2.2 dX3_isAct_206
    · refine lv_tableIn (tgt := 207) (off := 206) hx hb dX3_isAct_1 (by omega) (by omega) (by rw [hk3]; rfl) (by decide) ?_
      refine lv_iload_n hx hb dX3_isAct_207 rfl (lv_at hl 1 rfl) ?_
      refine vp_callSi (va_runSN (As := [.int aa]) (rest := []) ⟨hx, hb, hml, hown, hts⟩ (c_X4_isReference l aa) (⟨va_cnB 1 hts g_X3_isAct_X4_isReference_30 rfl rfl rfl (hN.2.2.2.2.2.1) (hts (.initialized RX4) (List.mem_of_getElem? (i := 2) rfl)) (by decide +kernel) ⟨Nat.le_of_ble_eq_true rfl, Nat.le_of_ble_eq_true rfl⟩, hts (.static yX4_isReference) (List.mem_of_getElem? (i := 9) rfl), trivial⟩) ⟨fun _ _ _ _ q => q, fun _ _ _ => ⟨rfl, trivial⟩⟩ rfl rfl hl.1 rfl (lv_room (Nat.le_of_ble_eq_true rfl)) dX3_isAct_208 ⟨Nat.le_of_ble_eq_true rfl, Nat.le_of_ble_eq_true rfl⟩).run (fun r_36 hw_36 => ?_)
      refine lv_if_eq (tgt := 232) hx hb dX3_isAct_211 (by decide) (fun c_37 => ?_) (fun c_37 => ?_)
      · -- yes
        have k_37 : ¬ (V6 aa) := two_z hw_36 c_37
        refine lv_iconst (v := 0) hx hb dX3_isAct_232 (by decide) ?_
        have hP9 := hP.sub (ws' := []) [] rfl
        have hD9 := hD.sub (ws' := []) [] (by decide) rfl
        exact W.zret (v := 0) (ty := .boolean) hx hb hr rfl (fun t ht hW => ⟨⟨0, (fun _ => 0), rfl, (Or.inr ⟨rfl, fun h9 => by have h8 := (okP_7 hk3).mp h9; omega⟩), by rw [ht]; exact hP9, va_K.moved hW.alike hK, hD9⟩, hS.F ht⟩) hS.2.2 dX3_isAct_233
      · -- no
        have k_37 : V6 aa := two_nz hw_36 c_37
        refine lv_iload_n hx hb dX3_isAct_214 rfl (lv_at hl 2 rfl) ?_
        refine vp_callSi (va_runSN (As := [.int ba]) (rest := []) ⟨hx, hb, hml, hown, hts⟩ (c_X4_isReference l ba) (⟨va_cnB 1 hts g_X3_isAct_X4_isReference_30 rfl rfl rfl (hN.2.2.2.2.2.1) (hts (.initialized RX4) (List.mem_of_getElem? (i := 2) rfl)) (by decide +kernel) ⟨Nat.le_of_ble_eq_true rfl, Nat.le_of_ble_eq_true rfl⟩, hts (.static yX4_isReference) (List.mem_of_getElem? (i := 9) rfl), trivial⟩) ⟨fun _ _ _ _ q => q, fun _ _ _ => ⟨rfl, trivial⟩⟩ rfl rfl hl.1 rfl (lv_room (Nat.le_of_ble_eq_true rfl)) dX3_isAct_215 ⟨Nat.le_of_ble_eq_true rfl, Nat.le_of_ble_eq_true rfl⟩).run (fun r_38 hw_38 => ?_)
        refine lv_if_eq (tgt := 232) hx hb dX3_isAct_218 (by decide) (fun c_39 => ?_) (fun c_39 => ?_)
        · -- yes
          have k_39 : ¬ (V6 ba) := two_z hw_38 c_39
          refine lv_iconst (v := 0) hx hb dX3_isAct_232 (by decide) ?_
          have hP9 := hP.sub (ws' := []) [] rfl
          have hD9 := hD.sub (ws' := []) [] (by decide) rfl
          exact W.zret (v := 0) (ty := .boolean) hx hb hr rfl (fun t ht hW => ⟨⟨0, (fun _ => 0), rfl, (Or.inr ⟨rfl, fun h9 => by have h8 := (okP_7 hk3).mp h9; omega⟩), by rw [ht]; exact hP9, va_K.moved hW.alike hK, hD9⟩, hS.F ht⟩) hS.2.2 dX3_isAct_233
        · -- no
          have k_39 : V6 ba := two_nz hw_38 c_39
          refine lv_iload_n hx hb dX3_isAct_221 rfl (lv_at hl 3 rfl) ?_
          refine vp_callSi (va_runSN (As := [.int ca]) (rest := []) ⟨hx, hb, hml, hown, hts⟩ (c_X4_isReference l ca) (⟨va_cnB 1 hts g_X3_isAct_X4_isReference_30 rfl rfl rfl (hN.2.2.2.2.2.1) (hts (.initialized RX4) (List.mem_of_getElem? (i := 2) rfl)) (by decide +kernel) ⟨Nat.le_of_ble_eq_true rfl, Nat.le_of_ble_eq_true rfl⟩, hts (.static yX4_isReference) (List.mem_of_getElem? (i := 9) rfl), trivial⟩) ⟨fun _ _ _ _ q => q, fun _ _ _ => ⟨rfl, trivial⟩⟩ rfl rfl hl.1 rfl (lv_room (Nat.le_of_ble_eq_true rfl)) dX3_isAct_222 ⟨Nat.le_of_ble_eq_true rfl, Nat.le_of_ble_eq_true rfl⟩).run (fun r_40 hw_40 => ?_)
          refine lv_if_eq (tgt := 232) hx hb dX3_isAct_225 (by decide) (fun c_41 => ?_) (fun c_41 => ?_)
          · -- yes
            have k_41 : ¬ (V6 ca) := two_z hw_40 c_41
            refine lv_iconst (v := 0) hx hb dX3_isAct_232 (by decide) ?_
            have hP9 := hP.sub (ws' := []) [] rfl
            have hD9 := hD.sub (ws' := []) [] (by decide) rfl
            exact W.zret (v := 0) (ty := .boolean) hx hb hr rfl (fun t ht hW => ⟨⟨0, (fun _ => 0), rfl, (Or.inr ⟨rfl, fun h9 => by have h8 := (okP_7 hk3).mp h9; omega⟩), by rw [ht]; exact hP9, va_K.moved hW.alike hK, hD9⟩, hS.F ht⟩) hS.2.2 dX3_isAct_233
          · -- no
            have k_41 : V6 ca := two_nz hw_40 c_41
            refine lv_iconst (v := 1) hx hb dX3_isAct_228 (by decide) ?_
            refine lv_goto (tgt := 233) hx hb dX3_isAct_229 (by decide) ?_
            have hP9 := hP.sub (ws' := []) [] rfl
            have hD9 := hD.sub (ws' := []) [] (by decide) rfl
            exact W.zret (v := 1) (ty := .boolean) hx hb hr rfl (fun t ht hW => ⟨⟨1, (fun _ => 0), rfl, (Or.inl ⟨rfl, (okP_7 hk3).mpr (by omega)⟩), by rw [ht]; exact hP9, va_K.moved hW.alike hK, hD9⟩, hS.F ht⟩) hS.2.2 dX3_isAct_233
    · refine lv_tableIn (tgt := 187) (off := 186) hx hb dX3_isAct_1 (by omega) (by omega) (by rw [hk3]; rfl) (by decide) ?_
      refine lv_iload_n hx hb dX3_isAct_187 rfl (lv_at hl 1 rfl) ?_
      refine vp_callSi (va_runSN (As := [.int aa]) (rest := []) ⟨hx, hb, hml, hown, hts⟩ (c_X4_isReference l aa) (⟨va_cnB 1 hts g_X3_isAct_X4_isReference_30 rfl rfl rfl (hN.2.2.2.2.2.1) (hts (.initialized RX4) (List.mem_of_getElem? (i := 2) rfl)) (by decide +kernel) ⟨Nat.le_of_ble_eq_true rfl, Nat.le_of_ble_eq_true rfl⟩, hts (.static yX4_isReference) (List.mem_of_getElem? (i := 9) rfl), trivial⟩) ⟨fun _ _ _ _ q => q, fun _ _ _ => ⟨rfl, trivial⟩⟩ rfl rfl hl.1 rfl (lv_room (Nat.le_of_ble_eq_true rfl)) dX3_isAct_188 ⟨Nat.le_of_ble_eq_true rfl, Nat.le_of_ble_eq_true rfl⟩).run (fun r_42 hw_42 => ?_)
      refine lv_if_eq (tgt := 205) hx hb dX3_isAct_191 (by decide) (fun c_43 => ?_) (fun c_43 => ?_)
      · -- yes
        have k_43 : ¬ (V6 aa) := two_z hw_42 c_43
        refine lv_iconst (v := 0) hx hb dX3_isAct_205 (by decide) ?_
        have hP9 := hP.sub (ws' := []) [] rfl
        have hD9 := hD.sub (ws' := []) [] (by decide) rfl
        exact W.zret (v := 0) (ty := .boolean) hx hb hr rfl (fun t ht hW => ⟨⟨0, (fun _ => 0), rfl, (Or.inr ⟨rfl, fun h9 => by have h8 := (okP_8 hk3).mp h9; omega⟩), by rw [ht]; exact hP9, va_K.moved hW.alike hK, hD9⟩, hS.F ht⟩) hS.2.2 dX3_isAct_206
      · -- no
        have k_43 : V6 aa := two_nz hw_42 c_43
        refine lv_iload_n hx hb dX3_isAct_194 rfl (lv_at hl 2 rfl) ?_
        refine vp_callSi (va_runSN (As := [.int ba]) (rest := []) ⟨hx, hb, hml, hown, hts⟩ (c_X4_isReference l ba) (⟨va_cnB 1 hts g_X3_isAct_X4_isReference_30 rfl rfl rfl (hN.2.2.2.2.2.1) (hts (.initialized RX4) (List.mem_of_getElem? (i := 2) rfl)) (by decide +kernel) ⟨Nat.le_of_ble_eq_true rfl, Nat.le_of_ble_eq_true rfl⟩, hts (.static yX4_isReference) (List.mem_of_getElem? (i := 9) rfl), trivial⟩) ⟨fun _ _ _ _ q => q, fun _ _ _ => ⟨rfl, trivial⟩⟩ rfl rfl hl.1 rfl (lv_room (Nat.le_of_ble_eq_true rfl)) dX3_isAct_195 ⟨Nat.le_of_ble_eq_true rfl, Nat.le_of_ble_eq_true rfl⟩).run (fun r_44 hw_44 => ?_)
        refine lv_if_eq (tgt := 205) hx hb dX3_isAct_198 (by decide) (fun c_45 => ?_) (fun c_45 => ?_)
        · -- yes
          have k_45 : ¬ (V6 ba) := two_z hw_44 c_45
          refine lv_iconst (v := 0) hx hb dX3_isAct_205 (by decide) ?_
          have hP9 := hP.sub (ws' := []) [] rfl
          have hD9 := hD.sub (ws' := []) [] (by decide) rfl
          exact W.zret (v := 0) (ty := .boolean) hx hb hr rfl (fun t ht hW => ⟨⟨0, (fun _ => 0), rfl, (Or.inr ⟨rfl, fun h9 => by have h8 := (okP_8 hk3).mp h9; omega⟩), by rw [ht]; exact hP9, va_K.moved hW.alike hK, hD9⟩, hS.F ht⟩) hS.2.2 dX3_isAct_206
        · -- no
          have k_45 : V6 ba := two_nz hw_44 c_45
          refine lv_iconst (v := 1) hx hb dX3_isAct_201 (by decide) ?_
          refine lv_goto (tgt := 206) hx hb dX3_isAct_202 (by decide) ?_
          have hP9 := hP.sub (ws' := []) [] rfl
          have hD9 := hD.sub (ws' := []) [] (by decide) rfl
          exact W.zret (v := 1) (ty := .boolean) hx hb hr rfl (fun t ht hW => ⟨⟨1, (fun _ => 0), rfl, (Or.inl ⟨rfl, (okP_8 hk3).mpr (by omega)⟩), by rw [ht]; exact hP9, va_K.moved hW.alike hK, hD9⟩, hS.F ht⟩) hS.2.2 dX3_isAct_206
    · refine lv_tableIn (tgt := 234) (off := 233) hx hb dX3_isAct_1 (by omega) (by omega) (by rw [hk3]; rfl) (by decide) ?_
      refine lv_iload_n hx hb dX3_isAct_234 rfl (lv_at hl 1 rfl) ?_
      refine vp_callSi (va_runSN (As := [.int aa]) (rest := []) ⟨hx, hb, hml, hown, hts⟩ (c_X4_isReference l aa) (⟨va_cnB 1 hts g_X3_isAct_X4_isReference_30 rfl rfl rfl (hN.2.2.2.2.2.1) (hts (.initialized RX4) (List.mem_of_getElem? (i := 2) rfl)) (by decide +kernel) ⟨Nat.le_of_ble_eq_true rfl, Nat.le_of_ble_eq_true rfl⟩, hts (.static yX4_isReference) (List.mem_of_getElem? (i := 9) rfl), trivial⟩) ⟨fun _ _ _ _ q => q, fun _ _ _ => ⟨rfl, trivial⟩⟩ rfl rfl hl.1 rfl (lv_room (Nat.le_of_ble_eq_true rfl)) dX3_isAct_235 ⟨Nat.le_of_ble_eq_true rfl, Nat.le_of_ble_eq_true rfl⟩).run (fun r_46 hw_46 => ?_)
      refine lv_if_eq (tgt := 267) hx hb dX3_isAct_238 (by decide) (fun c_47 => ?_) (fun c_47 => ?_)
      · -- yes
        have k_47 : ¬ (V6 aa) := two_z hw_46 c_47
        refine lv_iconst (v := 0) hx hb dX3_isAct_267 (by decide) ?_
        have hP9 := hP.sub (ws' := []) [] rfl
        have hD9 := hD.sub (ws' := []) [] (by decide) rfl
        exact W.zret (v := 0) (ty := .boolean) hx hb hr rfl (fun t ht hW => ⟨⟨0, (fun _ => 0), rfl, (Or.inr ⟨rfl, fun h9 => by have h8 := (okP_9 hk3).mp h9; omega⟩), by rw [ht]; exact hP9, va_K.moved hW.alike hK, hD9⟩, hS.F ht⟩) hS.2.2 dX3_isAct_268
      · -- no
        have k_47 : V6 aa := two_nz hw_46 c_47
        refine lv_iload_n hx hb dX3_isAct_241 rfl (lv_at hl 2 rfl) ?_
        refine vp_callSi (va_runSN (As := [.int ba]) (rest := []) ⟨hx, hb, hml, hown, hts⟩ (c_X4_isLane l ba) (⟨va_cnB 1 hts g_X3_isAct_X4_isLane_33 rfl rfl rfl (hN.2.2.2.2.2.2) (hts (.initialized RX4) (List.mem_of_getElem? (i := 2) rfl)) (by decide +kernel) ⟨Nat.le_of_ble_eq_true rfl, Nat.le_of_ble_eq_true rfl⟩, hts (.static yX4_isLane) (List.mem_of_getElem? (i := 11) rfl), trivial⟩) ⟨fun _ _ _ _ q => q, fun _ _ _ => ⟨rfl, trivial⟩⟩ rfl rfl hl.1 rfl (lv_room (Nat.le_of_ble_eq_true rfl)) dX3_isAct_242 ⟨Nat.le_of_ble_eq_true rfl, Nat.le_of_ble_eq_true rfl⟩).run (fun r_48 hw_48 => ?_)
        refine lv_if_eq (tgt := 267) hx hb dX3_isAct_245 (by decide) (fun c_49 => ?_) (fun c_49 => ?_)
        · -- yes
          have k_49 : ¬ (V3 ba) := two_z hw_48 c_49
          refine lv_iconst (v := 0) hx hb dX3_isAct_267 (by decide) ?_
          have hP9 := hP.sub (ws' := []) [] rfl
          have hD9 := hD.sub (ws' := []) [] (by decide) rfl
          exact W.zret (v := 0) (ty := .boolean) hx hb hr rfl (fun t ht hW => ⟨⟨0, (fun _ => 0), rfl, (Or.inr ⟨rfl, fun h9 => by have h8 := (okP_9 hk3).mp h9; omega⟩), by rw [ht]; exact hP9, va_K.moved hW.alike hK, hD9⟩, hS.F ht⟩) hS.2.2 dX3_isAct_268
        · -- no
          have k_49 : V3 ba := two_nz hw_48 c_49
          refine lv_iload_n hx hb dX3_isAct_248 rfl (lv_at hl 3 rfl) ?_
          refine vp_callSi (va_runSN (As := [.int ca]) (rest := []) ⟨hx, hb, hml, hown, hts⟩ (c_X4_isVariable l ca) (⟨va_cnB 1 hts g_X3_isAct_X4_isVariable_23 rfl rfl rfl (hN.2.2.2.1) (hts (.initialized RX4) (List.mem_of_getElem? (i := 2) rfl)) (by decide +kernel) ⟨Nat.le_of_ble_eq_true rfl, Nat.le_of_ble_eq_true rfl⟩, hts (.static yX4_isVariable) (List.mem_of_getElem? (i := 3) rfl), trivial⟩) ⟨fun _ _ _ _ q => q, fun _ _ _ => ⟨rfl, trivial⟩⟩ rfl rfl hl.1 rfl (lv_room (Nat.le_of_ble_eq_true rfl)) dX3_isAct_249 ⟨Nat.le_of_ble_eq_true rfl, Nat.le_of_ble_eq_true rfl⟩).run (fun r_50 hw_50 => ?_)
          refine lv_if_eq (tgt := 267) hx hb dX3_isAct_252 (by decide) (fun c_51 => ?_) (fun c_51 => ?_)
          · -- yes
            have k_51 : ¬ (V6 ca) := two_z hw_50 c_51
            refine lv_iconst (v := 0) hx hb dX3_isAct_267 (by decide) ?_
            have hP9 := hP.sub (ws' := []) [] rfl
            have hD9 := hD.sub (ws' := []) [] (by decide) rfl
            exact W.zret (v := 0) (ty := .boolean) hx hb hr rfl (fun t ht hW => ⟨⟨0, (fun _ => 0), rfl, (Or.inr ⟨rfl, fun h9 => by have h8 := (okP_9 hk3).mp h9; omega⟩), by rw [ht]; exact hP9, va_K.moved hW.alike hK, hD9⟩, hS.F ht⟩) hS.2.2 dX3_isAct_268
          · -- no
            have k_51 : V6 ca := two_nz hw_50 c_51
            refine lv_iload hx hb dX3_isAct_255 (lv_at hl 4 rfl) ?_
            refine vp_callSi (va_runSN (As := [.int da]) (rest := []) ⟨hx, hb, hml, hown, hts⟩ (c_X4_isVariable l da) (⟨va_cnB 1 hts g_X3_isAct_X4_isVariable_23 rfl rfl rfl (hN.2.2.2.1) (hts (.initialized RX4) (List.mem_of_getElem? (i := 2) rfl)) (by decide +kernel) ⟨Nat.le_of_ble_eq_true rfl, Nat.le_of_ble_eq_true rfl⟩, hts (.static yX4_isVariable) (List.mem_of_getElem? (i := 3) rfl), trivial⟩) ⟨fun _ _ _ _ q => q, fun _ _ _ => ⟨rfl, trivial⟩⟩ rfl rfl hl.1 rfl (lv_room (Nat.le_of_ble_eq_true rfl)) dX3_isAct_257 ⟨Nat.le_of_ble_eq_true rfl, Nat.le_of_ble_eq_true rfl⟩).run (fun r_52 hw_52 => ?_)
            refine lv_if_eq (tgt := 267) hx hb dX3_isAct_260 (by decide) (fun c_53 => ?_) (fun c_53 => ?_)
            · -- yes
              have k_53 : ¬ (V6 da) := two_z hw_52 c_53
              refine lv_iconst (v := 0) hx hb dX3_isAct_267 (by decide) ?_
              have hP9 := hP.sub (ws' := []) [] rfl
              have hD9 := hD.sub (ws' := []) [] (by decide) rfl
              exact W.zret (v := 0) (ty := .boolean) hx hb hr rfl (fun t ht hW => ⟨⟨0, (fun _ => 0), rfl, (Or.inr ⟨rfl, fun h9 => by have h8 := (okP_9 hk3).mp h9; omega⟩), by rw [ht]; exact hP9, va_K.moved hW.alike hK, hD9⟩, hS.F ht⟩) hS.2.2 dX3_isAct_268
            · -- no
              have k_53 : V6 da := two_nz hw_52 c_53
              refine lv_iconst (v := 1) hx hb dX3_isAct_263 (by decide) ?_
              refine lv_goto (tgt := 268) hx hb dX3_isAct_264 (by decide) ?_
              have hP9 := hP.sub (ws' := []) [] rfl
              have hD9 := hD.sub (ws' := []) [] (by decide) rfl
              exact W.zret (v := 1) (ty := .boolean) hx hb hr rfl (fun t ht hW => ⟨⟨1, (fun _ => 0), rfl, (Or.inl ⟨rfl, (okP_9 hk3).mpr (by omega)⟩), by rw [ht]; exact hP9, va_K.moved hW.alike hK, hD9⟩, hS.F ht⟩) hS.2.2 dX3_isAct_268
    · refine lv_tableIn (tgt := 269) (off := 268) hx hb dX3_isAct_1 (by omega) (by omega) (by rw [hk3]; rfl) (by decide) ?_
      refine lv_iload_n hx hb dX3_isAct_269 rfl (lv_at hl 1 rfl) ?_
      refine vp_callSi (va_runSN (As := [.int aa]) (rest := []) ⟨hx, hb, hml, hown, hts⟩ (c_X4_isVariable l aa) (⟨va_cnB 1 hts g_X3_isAct_X4_isVariable_23 rfl rfl rfl (hN.2.2.2.1) (hts (.initialized RX4) (List.mem_of_getElem? (i := 2) rfl)) (by decide +kernel) ⟨Nat.le_of_ble_eq_true rfl, Nat.le_of_ble_eq_true rfl⟩, hts (.static yX4_isVariable) (List.mem_of_getElem? (i := 3) rfl), trivial⟩) ⟨fun _ _ _ _ q => q, fun _ _ _ => ⟨rfl, trivial⟩⟩ rfl rfl hl.1 rfl (lv_room (Nat.le_of_ble_eq_true rfl)) dX3_isAct_270 ⟨Nat.le_of_ble_eq_true rfl, Nat.le_of_ble_eq_true rfl⟩).run (fun r_54 hw_54 => ?_)
      refine lv_if_eq (tgt := 302) hx hb dX3_isAct_273 (by decide) (fun c_55 => ?_) (fun c_55 => ?_)
      · -- yes
        have k_55 : ¬ (V6 aa) := two_z hw_54 c_55
        refine lv_iconst (v := 0) hx hb dX3_isAct_302 (by decide) ?_
        have hP9 := hP.sub (ws' := []) [] rfl
        have hD9 := hD.sub (ws' := []) [] (by decide) rfl
        exact W.zret (v := 0) (ty := .boolean) hx hb hr rfl (fun t ht hW => ⟨⟨0, (fun _ => 0), rfl, (Or.inr ⟨rfl, fun h9 => by have h8 := (okP_10 hk3).mp h9; omega⟩), by rw [ht]; exact hP9, va_K.moved hW.alike hK, hD9⟩, hS.F ht⟩) hS.2.2 dX3_isAct_303
      · -- no
        have k_55 : V6 aa := two_nz hw_54 c_55
        refine lv_iload_n hx hb dX3_isAct_276 rfl (lv_at hl 2 rfl) ?_
        refine vp_callSi (va_runSN (As := [.int ba]) (rest := []) ⟨hx, hb, hml, hown, hts⟩ (c_X4_isReference l ba) (⟨va_cnB 1 hts g_X3_isAct_X4_isReference_30 rfl rfl rfl (hN.2.2.2.2.2.1) (hts (.initialized RX4) (List.mem_of_getElem? (i := 2) rfl)) (by decide +kernel) ⟨Nat.le_of_ble_eq_true rfl, Nat.le_of_ble_eq_true rfl⟩, hts (.static yX4_isReference) (List.mem_of_getElem? (i := 9) rfl), trivial⟩) ⟨fun _ _ _ _ q => q, fun _ _ _ => ⟨rfl, trivial⟩⟩ rfl rfl hl.1 rfl (lv_room (Nat.le_of_ble_eq_true rfl)) dX3_isAct_277 ⟨Nat.le_of_ble_eq_true rfl, Nat.le_of_ble_eq_true rfl⟩).run (fun r_56 hw_56 => ?_)
        refine lv_if_eq (tgt := 302) hx hb dX3_isAct_280 (by decide) (fun c_57 => ?_) (fun c_57 => ?_)
        · -- yes
          have k_57 : ¬ (V6 ba) := two_z hw_56 c_57
          refine lv_iconst (v := 0) hx hb dX3_isAct_302 (by decide) ?_
          have hP9 := hP.sub (ws' := []) [] rfl
          have hD9 := hD.sub (ws' := []) [] (by decide) rfl
          exact W.zret (v := 0) (ty := .boolean) hx hb hr rfl (fun t ht hW => ⟨⟨0, (fun _ => 0), rfl, (Or.inr ⟨rfl, fun h9 => by have h8 := (okP_10 hk3).mp h9; omega⟩), by rw [ht]; exact hP9, va_K.moved hW.alike hK, hD9⟩, hS.F ht⟩) hS.2.2 dX3_isAct_303
        · -- no
          have k_57 : V6 ba := two_nz hw_56 c_57
          refine lv_iload_n hx hb dX3_isAct_283 rfl (lv_at hl 3 rfl) ?_
          refine vp_callSi (va_runSN (As := [.int ca]) (rest := []) ⟨hx, hb, hml, hown, hts⟩ (c_X4_isLane l ca) (⟨va_cnB 1 hts g_X3_isAct_X4_isLane_33 rfl rfl rfl (hN.2.2.2.2.2.2) (hts (.initialized RX4) (List.mem_of_getElem? (i := 2) rfl)) (by decide +kernel) ⟨Nat.le_of_ble_eq_true rfl, Nat.le_of_ble_eq_true rfl⟩, hts (.static yX4_isLane) (List.mem_of_getElem? (i := 11) rfl), trivial⟩) ⟨fun _ _ _ _ q => q, fun _ _ _ => ⟨rfl, trivial⟩⟩ rfl rfl hl.1 rfl (lv_room (Nat.le_of_ble_eq_true rfl)) dX3_isAct_284 ⟨Nat.le_of_ble_eq_true rfl, Nat.le_of_ble_eq_true rfl⟩).run (fun r_58 hw_58 => ?_)
          refine lv_if_eq (tgt := 302) hx hb dX3_isAct_287 (by decide) (fun c_59 => ?_) (fun c_59 => ?_)
          · -- yes
            have k_59 : ¬ (V3 ca) := two_z hw_58 c_59
            refine lv_iconst (v := 0) hx hb dX3_isAct_302 (by decide) ?_
            have hP9 := hP.sub (ws' := []) [] rfl
            have hD9 := hD.sub (ws' := []) [] (by decide) rfl
            exact W.zret (v := 0) (ty := .boolean) hx hb hr rfl (fun t ht hW => ⟨⟨0, (fun _ => 0), rfl, (Or.inr ⟨rfl, fun h9 => by have h8 := (okP_10 hk3).mp h9; omega⟩), by rw [ht]; exact hP9, va_K.moved hW.alike hK, hD9⟩, hS.F ht⟩) hS.2.2 dX3_isAct_303
          · -- no
            have k_59 : V3 ca := two_nz hw_58 c_59
            refine lv_iload hx hb dX3_isAct_290 (lv_at hl 4 rfl) ?_
            refine vp_callSi (va_runSN (As := [.int da]) (rest := []) ⟨hx, hb, hml, hown, hts⟩ (c_X4_isVariable l da) (⟨va_cnB 1 hts g_X3_isAct_X4_isVariable_23 rfl rfl rfl (hN.2.2.2.1) (hts (.initialized RX4) (List.mem_of_getElem? (i := 2) rfl)) (by decide +kernel) ⟨Nat.le_of_ble_eq_true rfl, Nat.le_of_ble_eq_true rfl⟩, hts (.static yX4_isVariable) (List.mem_of_getElem? (i := 3) rfl), trivial⟩) ⟨fun _ _ _ _ q => q, fun _ _ _ => ⟨rfl, trivial⟩⟩ rfl rfl hl.1 rfl (lv_room (Nat.le_of_ble_eq_true rfl)) dX3_isAct_292 ⟨Nat.le_of_ble_eq_true rfl, Nat.le_of_ble_eq_true rfl⟩).run (fun r_60 hw_60 => ?_)
            refine lv_if_eq (tgt := 302) hx hb dX3_isAct_295 (by decide) (fun c_61 => ?_) (fun c_61 => ?_)
            · -- yes
              have k_61 : ¬ (V6 da) := two_z hw_60 c_61
              refine lv_iconst (v := 0) hx hb dX3_isAct_302 (by decide) ?_
              have hP9 := hP.sub (ws' := []) [] rfl
              have hD9 := hD.sub (ws' := []) [] (by decide) rfl
              exact W.zret (v := 0) (ty := .boolean) hx hb hr rfl (fun t ht hW => ⟨⟨0, (fun _ => 0), rfl, (Or.inr ⟨rfl, fun h9 => by have h8 := (okP_10 hk3).mp h9; omega⟩), by rw [ht]; exact hP9, va_K.moved hW.alike hK, hD9⟩, hS.F ht⟩) hS.2.2 dX3_isAct_303
            · -- no
              have k_61 : V6 da := two_nz hw_60 c_61
              refine lv_iconst (v := 1) hx hb dX3_isAct_298 (by decide) ?_
              refine lv_goto (tgt := 303) hx hb dX3_isAct_299 (by decide) ?_
              have hP9 := hP.sub (ws' := []) [] rfl
              have hD9 := hD.sub (ws' := []) [] (by decide) rfl
              exact W.zret (v := 1) (ty := .boolean) hx hb hr rfl (fun t ht hW => ⟨⟨1, (fun _ => 0), rfl, (Or.inl ⟨rfl, (okP_10 hk3).mpr (by omega)⟩), by rw [ht]; exact hP9, va_K.moved hW.alike hK, hD9⟩, hS.F ht⟩) hS.2.2 dX3_isAct_303
    · refine lv_tableIn (tgt := 304) (off := 303) hx hb dX3_isAct_1 (by omega) (by omega) (by rw [hk3]; rfl) (by decide) ?_
      refine lv_iload_n hx hb dX3_isAct_304 rfl (lv_at hl 1 rfl) ?_
      refine vp_callSi (va_runSN (As := [.int aa]) (rest := []) ⟨hx, hb, hml, hown, hts⟩ (c_X4_isReference l aa) (⟨va_cnB 1 hts g_X3_isAct_X4_isReference_30 rfl rfl rfl (hN.2.2.2.2.2.1) (hts (.initialized RX4) (List.mem_of_getElem? (i := 2) rfl)) (by decide +kernel) ⟨Nat.le_of_ble_eq_true rfl, Nat.le_of_ble_eq_true rfl⟩, hts (.static yX4_isReference) (List.mem_of_getElem? (i := 9) rfl), trivial⟩) ⟨fun _ _ _ _ q => q, fun _ _ _ => ⟨rfl, trivial⟩⟩ rfl rfl hl.1 rfl (lv_room (Nat.le_of_ble_eq_true rfl)) dX3_isAct_305 ⟨Nat.le_of_ble_eq_true rfl, Nat.le_of_ble_eq_true rfl⟩).run (fun r_62 hw_62 => ?_)
      refine lv_if_eq (tgt := 345) hx hb dX3_isAct_308 (by decide) (fun c_63 => ?_) (fun c_63 => ?_)
      · -- yes
        have k_63 : ¬ (V6 aa) := two_z hw_62 c_63
        refine lv_iconst (v := 0) hx hb dX3_isAct_345 (by decide) ?_
        have hP9 := hP.sub (ws' := []) [] rfl
        have hD9 := hD.sub (ws' := []) [] (by decide) rfl
        exact W.zret (v := 0) (ty := .boolean) hx hb hr rfl (fun t ht hW => ⟨⟨0, (fun _ => 0), rfl, (Or.inr ⟨rfl, fun h9 => by have h8 := (okP_11 hk3).mp h9; omega⟩), by rw [ht]; exact hP9, va_K.moved hW.alike hK, hD9⟩, hS.F ht⟩) hS.2.2 dX3_isAct_346
      · -- no
        have k_63 : V6 aa := two_nz hw_62 c_63
        refine lv_iload_n hx hb dX3_isAct_311 rfl (lv_at hl 2 rfl) ?_
        refine vp_callSi (va_runSN (As := [.int ba]) (rest := []) ⟨hx, hb, hml, hown, hts⟩ (c_X4_isVariable l ba) (⟨va_cnB 1 hts g_X3_isAct_X4_isVariable_23 rfl rfl rfl (hN.2.2.2.1) (hts (.initialized RX4) (List.mem_of_getElem? (i := 2) rfl)) (by decide +kernel) ⟨Nat.le_of_ble_eq_true rfl, Nat.le_of_ble_eq_true rfl⟩, hts (.static yX4_isVariable) (List.mem_of_getElem? (i := 3) rfl), trivial⟩) ⟨fun _ _ _ _ q => q, fun _ _ _ => ⟨rfl, trivial⟩⟩ rfl rfl hl.1 rfl (lv_room (Nat.le_of_ble_eq_true rfl)) dX3_isAct_312 ⟨Nat.le_of_ble_eq_true rfl, Nat.le_of_ble_eq_true rfl⟩).run (fun r_64 hw_64 => ?_)
        refine lv_if_eq (tgt := 345) hx hb dX3_isAct_315 (by decide) (fun c_65 => ?_) (fun c_65 => ?_)
        · -- yes
          have k_65 : ¬ (V6 ba) := two_z hw_64 c_65
          refine lv_iconst (v := 0) hx hb dX3_isAct_345 (by decide) ?_
          have hP9 := hP.sub (ws' := []) [] rfl
          have hD9 := hD.sub (ws' := []) [] (by decide) rfl
          exact W.zret (v := 0) (ty := .boolean) hx hb hr rfl (fun t ht hW => ⟨⟨0, (fun _ => 0), rfl, (Or.inr ⟨rfl, fun h9 => by have h8 := (okP_11 hk3).mp h9; omega⟩), by rw [ht]; exact hP9, va_K.moved hW.alike hK, hD9⟩, hS.F ht⟩) hS.2.2 dX3_isAct_346
        · -- no
          have k_65 : V6 ba := two_nz hw_64 c_65
          refine lv_iload_n hx hb dX3_isAct_318 rfl (lv_at hl 3 rfl) ?_
          refine vp_callSi (va_runSN (As := [.int ca]) (rest := []) ⟨hx, hb, hml, hown, hts⟩ (c_X4_isReference l ca) (⟨va_cnB 1 hts g_X3_isAct_X4_isReference_30 rfl rfl rfl (hN.2.2.2.2.2.1) (hts (.initialized RX4) (List.mem_of_getElem? (i := 2) rfl)) (by decide +kernel) ⟨Nat.le_of_ble_eq_true rfl, Nat.le_of_ble_eq_true rfl⟩, hts (.static yX4_isReference) (List.mem_of_getElem? (i := 9) rfl), trivial⟩) ⟨fun _ _ _ _ q => q, fun _ _ _ => ⟨rfl, trivial⟩⟩ rfl rfl hl.1 rfl (lv_room (Nat.le_of_ble_eq_true rfl)) dX3_isAct_319 ⟨Nat.le_of_ble_eq_true rfl, Nat.le_of_ble_eq_true rfl⟩).run (fun r_66 hw_66 => ?_)
          refine lv_if_eq (tgt := 345) hx hb dX3_isAct_322 (by decide) (fun c_67 => ?_) (fun c_67 => ?_)
          · -- yes
            have k_67 : ¬ (V6 ca) := two_z hw_66 c_67
            refine lv_iconst (v := 0) hx hb dX3_isAct_345 (by decide) ?_
            have hP9 := hP.sub (ws' := []) [] rfl
            have hD9 := hD.sub (ws' := []) [] (by decide) rfl
            exact W.zret (v := 0) (ty := .boolean) hx hb hr rfl (fun t ht hW => ⟨⟨0, (fun _ => 0), rfl, (Or.inr ⟨rfl, fun h9 => by have h8 := (okP_11 hk3).mp h9; omega⟩), by rw [ht]; exact hP9, va_K.moved hW.alike hK, hD9⟩, hS.F ht⟩) hS.2.2 dX3_isAct_346
          · -- no
            have k_67 : V6 ca := two_nz hw_66 c_67
            refine lv_iload hx hb dX3_isAct_325 (lv_at hl 4 rfl) ?_
            refine vp_callSi (va_runSN (As := [.int da]) (rest := []) ⟨hx, hb, hml, hown, hts⟩ (c_X4_isVariable l da) (⟨va_cnB 1 hts g_X3_isAct_X4_isVariable_23 rfl rfl rfl (hN.2.2.2.1) (hts (.initialized RX4) (List.mem_of_getElem? (i := 2) rfl)) (by decide +kernel) ⟨Nat.le_of_ble_eq_true rfl, Nat.le_of_ble_eq_true rfl⟩, hts (.static yX4_isVariable) (List.mem_of_getElem? (i := 3) rfl), trivial⟩) ⟨fun _ _ _ _ q => q, fun _ _ _ => ⟨rfl, trivial⟩⟩ rfl rfl hl.1 rfl (lv_room (Nat.le_of_ble_eq_true rfl)) dX3_isAct_327 ⟨Nat.le_of_ble_eq_true rfl, Nat.le_of_ble_eq_true rfl⟩).run (fun r_68 hw_68 => ?_)
            refine lv_if_eq (tgt := 345) hx hb dX3_isAct_330 (by decide) (fun c_69 => ?_) (fun c_69 => ?_)
            · -- yes
              have k_69 : ¬ (V6 da) := two_z hw_68 c_69
              refine lv_iconst (v := 0) hx hb dX3_isAct_345 (by decide) ?_
              have hP9 := hP.sub (ws' := []) [] rfl
              have hD9 := hD.sub (ws' := []) [] (by decide) rfl
              exact W.zret (v := 0) (ty := .boolean) hx hb hr rfl (fun t ht hW => ⟨⟨0, (fun _ => 0), rfl, (Or.inr ⟨rfl, fun h9 => by have h8 := (okP_11 hk3).mp h9; omega⟩), by rw [ht]; exact hP9, va_K.moved hW.alike hK, hD9⟩, hS.F ht⟩) hS.2.2 dX3_isAct_346
            · -- no
              have k_69 : V6 da := two_nz hw_68 c_69
              refine lv_iload hx hb dX3_isAct_333 (lv_at hl 5 rfl) ?_
              refine vp_callSi (va_runSN (As := [.int ea]) (rest := []) ⟨hx, hb, hml, hown, hts⟩ (c_X4_isVariable l ea) (⟨va_cnB 1 hts g_X3_isAct_X4_isVariable_23 rfl rfl rfl (hN.2.2.2.1) (hts (.initialized RX4) (List.mem_of_getElem? (i := 2) rfl)) (by decide +kernel) ⟨Nat.le_of_ble_eq_true rfl, Nat.le_of_ble_eq_true rfl⟩, hts (.static yX4_isVariable) (List.mem_of_getElem? (i := 3) rfl), trivial⟩) ⟨fun _ _ _ _ q => q, fun _ _ _ => ⟨rfl, trivial⟩⟩ rfl rfl hl.1 rfl (lv_room (Nat.le_of_ble_eq_true rfl)) dX3_isAct_335 ⟨Nat.le_of_ble_eq_true rfl, Nat.le_of_ble_eq_true rfl⟩).run (fun r_70 hw_70 => ?_)
              refine lv_if_eq (tgt := 345) hx hb dX3_isAct_338 (by decide) (fun c_71 => ?_) (fun c_71 => ?_)
              · -- yes
                have k_71 : ¬ (V6 ea) := two_z hw_70 c_71
                refine lv_iconst (v := 0) hx hb dX3_isAct_345 (by decide) ?_
                have hP9 := hP.sub (ws' := []) [] rfl
                have hD9 := hD.sub (ws' := []) [] (by decide) rfl
                exact W.zret (v := 0) (ty := .boolean) hx hb hr rfl (fun t ht hW => ⟨⟨0, (fun _ => 0), rfl, (Or.inr ⟨rfl, fun h9 => by have h8 := (okP_11 hk3).mp h9; omega⟩), by rw [ht]; exact hP9, va_K.moved hW.alike hK, hD9⟩, hS.F ht⟩) hS.2.2 dX3_isAct_346
              · -- no
                have k_71 : V6 ea := two_nz hw_70 c_71
                refine lv_iconst (v := 1) hx hb dX3_isAct_341 (by decide) ?_
                refine lv_goto (tgt := 346) hx hb dX3_isAct_342 (by decide) ?_
                have hP9 := hP.sub (ws' := []) [] rfl
                have hD9 := hD.sub (ws' := []) [] (by decide) rfl
                exact W.zret (v := 1) (ty := .boolean) hx hb hr rfl (fun t ht hW => ⟨⟨1, (fun _ => 0), rfl, (Or.inl ⟨rfl, (okP_11 hk3).mpr (by omega)⟩), by rw [ht]; exact hP9, va_K.moved hW.alike hK, hD9⟩, hS.F ht⟩) hS.2.2 dX3_isAct_346
    · refine lv_tableIn (tgt := 347) (off := 346) hx hb dX3_isAct_1 (by omega) (by omega) (by rw [hk3]; rfl) (by decide) ?_
      refine lv_iload_n hx hb dX3_isAct_347 rfl (lv_at hl 1 rfl) ?_
      refine vp_callSi (va_runSN (As := [.int aa]) (rest := []) ⟨hx, hb, hml, hown, hts⟩ (c_X4_isReference l aa) (⟨va_cnB 1 hts g_X3_isAct_X4_isReference_30 rfl rfl rfl (hN.2.2.2.2.2.1) (hts (.initialized RX4) (List.mem_of_getElem? (i := 2) rfl)) (by decide +kernel) ⟨Nat.le_of_ble_eq_true rfl, Nat.le_of_ble_eq_true rfl⟩, hts (.static yX4_isReference) (List.mem_of_getElem? (i := 9) rfl), trivial⟩) ⟨fun _ _ _ _ q => q, fun _ _ _ => ⟨rfl, trivial⟩⟩ rfl rfl hl.1 rfl (lv_room (Nat.le_of_ble_eq_true rfl)) dX3_isAct_348 ⟨Nat.le_of_ble_eq_true rfl, Nat.le_of_ble_eq_true rfl⟩).run (fun r_72 hw_72 => ?_)
      refine lv_if_eq (tgt := 388) hx hb dX3_isAct_351 (by decide) (fun c_73 => ?_) (fun c_73 => ?_)
      · -- yes
        have k_73 : ¬ (V6 aa) := two_z hw_72 c_73
        refine lv_iconst (v := 0) hx hb dX3_isAct_388 (by decide) ?_
        have hP9 := hP.sub (ws' := []) [] rfl
        have hD9 := hD.sub (ws' := []) [] (by decide) rfl
        exact W.zret (v := 0) (ty := .boolean) hx hb hr rfl (fun t ht hW => ⟨⟨0, (fun _ => 0), rfl, (Or.inr ⟨rfl, fun h9 => by have h8 := (okP_12 hk3).mp h9; omega⟩), by rw [ht]; exact hP9, va_K.moved hW.alike hK, hD9⟩, hS.F ht⟩) hS.2.2 dX3_isAct_389
      · -- no
        have k_73 : V6 aa := two_nz hw_72 c_73
        refine lv_iload_n hx hb dX3_isAct_354 rfl (lv_at hl 2 rfl) ?_
        refine vp_callSi (va_runSN (As := [.int ba]) (rest := []) ⟨hx, hb, hml, hown, hts⟩ (c_X4_isLane l ba) (⟨va_cnB 1 hts g_X3_isAct_X4_isLane_33 rfl rfl rfl (hN.2.2.2.2.2.2) (hts (.initialized RX4) (List.mem_of_getElem? (i := 2) rfl)) (by decide +kernel) ⟨Nat.le_of_ble_eq_true rfl, Nat.le_of_ble_eq_true rfl⟩, hts (.static yX4_isLane) (List.mem_of_getElem? (i := 11) rfl), trivial⟩) ⟨fun _ _ _ _ q => q, fun _ _ _ => ⟨rfl, trivial⟩⟩ rfl rfl hl.1 rfl (lv_room (Nat.le_of_ble_eq_true rfl)) dX3_isAct_355 ⟨Nat.le_of_ble_eq_true rfl, Nat.le_of_ble_eq_true rfl⟩).run (fun r_74 hw_74 => ?_)
        refine lv_if_eq (tgt := 388) hx hb dX3_isAct_358 (by decide) (fun c_75 => ?_) (fun c_75 => ?_)
        · -- yes
          have k_75 : ¬ (V3 ba) := two_z hw_74 c_75
          refine lv_iconst (v := 0) hx hb dX3_isAct_388 (by decide) ?_
          have hP9 := hP.sub (ws' := []) [] rfl
          have hD9 := hD.sub (ws' := []) [] (by decide) rfl
          exact W.zret (v := 0) (ty := .boolean) hx hb hr rfl (fun t ht hW => ⟨⟨0, (fun _ => 0), rfl, (Or.inr ⟨rfl, fun h9 => by have h8 := (okP_12 hk3).mp h9; omega⟩), by rw [ht]; exact hP9, va_K.moved hW.alike hK, hD9⟩, hS.F ht⟩) hS.2.2 dX3_isAct_389
        · -- no
          have k_75 : V3 ba := two_nz hw_74 c_75
          refine lv_iload_n hx hb dX3_isAct_361 rfl (lv_at hl 3 rfl) ?_
          refine vp_callSi (va_runSN (As := [.int ca]) (rest := []) ⟨hx, hb, hml, hown, hts⟩ (c_X4_isVariable l ca) (⟨va_cnB 1 hts g_X3_isAct_X4_isVariable_23 rfl rfl rfl (hN.2.2.2.1) (hts (.initialized RX4) (List.mem_of_getElem? (i := 2) rfl)) (by decide +kernel) ⟨Nat.le_of_ble_eq_true rfl, Nat.le_of_ble_eq_true rfl⟩, hts (.static yX4_isVariable) (List.mem_of_getElem? (i := 3) rfl), trivial⟩) ⟨fun _ _ _ _ q => q, fun _ _ _ => ⟨rfl, trivial⟩⟩ rfl rfl hl.1 rfl (lv_room (Nat.le_of_ble_eq_true rfl)) dX3_isAct_362 ⟨Nat.le_of_ble_eq_true rfl, Nat.le_of_ble_eq_true rfl⟩).run (fun r_76 hw_76 => ?_)
          refine lv_if_eq (tgt := 388) hx hb dX3_isAct_365 (by decide) (fun c_77 => ?_) (fun c_77 => ?_)
          · -- yes
            have k_77 : ¬ (V6 ca) := two_z hw_76 c_77
            refine lv_iconst (v := 0) hx hb dX3_isAct_388 (by decide) ?_
            have hP9 := hP.sub (ws' := []) [] rfl
            have hD9 := hD.sub (ws' := []) [] (by decide) rfl
            exact W.zret (v := 0) (ty := .boolean) hx hb hr rfl (fun t ht hW => ⟨⟨0, (fun _ => 0), rfl, (Or.inr ⟨rfl, fun h9 => by have h8 := (okP_12 hk3).mp h9; omega⟩), by rw [ht]; exact hP9, va_K.moved hW.alike hK, hD9⟩, hS.F ht⟩) hS.2.2 dX3_isAct_389
          · -- no
            have k_77 : V6 ca := two_nz hw_76 c_77
            refine lv_iload hx hb dX3_isAct_368 (lv_at hl 4 rfl) ?_
            refine vp_callSi (va_runSN (As := [.int da]) (rest := []) ⟨hx, hb, hml, hown, hts⟩ (c_X4_isVariable l da) (⟨va_cnB 1 hts g_X3_isAct_X4_isVariable_23 rfl rfl rfl (hN.2.2.2.1) (hts (.initialized RX4) (List.mem_of_getElem? (i := 2) rfl)) (by decide +kernel) ⟨Nat.le_of_ble_eq_true rfl, Nat.le_of_ble_eq_true rfl⟩, hts (.static yX4_isVariable) (List.mem_of_getElem? (i := 3) rfl), trivial⟩) ⟨fun _ _ _ _ q => q, fun _ _ _ => ⟨rfl, trivial⟩⟩ rfl rfl hl.1 rfl (lv_room (Nat.le_of_ble_eq_true rfl)) dX3_isAct_370 ⟨Nat.le_of_ble_eq_true rfl, Nat.le_of_ble_eq_true rfl⟩).run (fun r_78 hw_78 => ?_)
            refine lv_if_eq (tgt := 388) hx hb dX3_isAct_373 (by decide) (fun c_79 => ?_) (fun c_79 => ?_)
            · -- yes
              have k_79 : ¬ (V6 da) := two_z hw_78 c_79
              refine lv_iconst (v := 0) hx hb dX3_isAct_388 (by decide) ?_
              have hP9 := hP.sub (ws' := []) [] rfl
              have hD9 := hD.sub (ws' := []) [] (by decide) rfl
              exact W.zret (v := 0) (ty := .boolean) hx hb hr rfl (fun t ht hW => ⟨⟨0, (fun _ => 0), rfl, (Or.inr ⟨rfl, fun h9 => by have h8 := (okP_12 hk3).mp h9; omega⟩), by rw [ht]; exact hP9, va_K.moved hW.alike hK, hD9⟩, hS.F ht⟩) hS.2.2 dX3_isAct_389
            · -- no
              have k_79 : V6 da := two_nz hw_78 c_79
              refine lv_iload hx hb dX3_isAct_376 (lv_at hl 5 rfl) ?_
              refine vp_callSi (va_runSN (As := [.int ea]) (rest := []) ⟨hx, hb, hml, hown, hts⟩ (c_X4_isVariable l ea) (⟨va_cnB 1 hts g_X3_isAct_X4_isVariable_23 rfl rfl rfl (hN.2.2.2.1) (hts (.initialized RX4) (List.mem_of_getElem? (i := 2) rfl)) (by decide +kernel) ⟨Nat.le_of_ble_eq_true rfl, Nat.le_of_ble_eq_true rfl⟩, hts (.static yX4_isVariable) (List.mem_of_getElem? (i := 3) rfl), trivial⟩) ⟨fun _ _ _ _ q => q, fun _ _ _ => ⟨rfl, trivial⟩⟩ rfl rfl hl.1 rfl (lv_room (Nat.le_of_ble_eq_true rfl)) dX3_isAct_378 ⟨Nat.le_of_ble_eq_true rfl, Nat.le_of_ble_eq_true rfl⟩).run (fun r_80 hw_80 => ?_)
              refine lv_if_eq (tgt := 388) hx hb dX3_isAct_381 (by decide) (fun c_81 => ?_) (fun c_81 => ?_)
              · -- yes
                have k_81 : ¬ (V6 ea) := two_z hw_80 c_81
                refine lv_iconst (v := 0) hx hb dX3_isAct_388 (by decide) ?_
                have hP9 := hP.sub (ws' := []) [] rfl
                have hD9 := hD.sub (ws' := []) [] (by decide) rfl
                exact W.zret (v := 0) (ty := .boolean) hx hb hr rfl (fun t ht hW => ⟨⟨0, (fun _ => 0), rfl, (Or.inr ⟨rfl, fun h9 => by have h8 := (okP_12 hk3).mp h9; omega⟩), by rw [ht]; exact hP9, va_K.moved hW.alike hK, hD9⟩, hS.F ht⟩) hS.2.2 dX3_isAct_389
              · -- no
                have k_81 : V6 ea := two_nz hw_80 c_81
                refine lv_iconst (v := 1) hx hb dX3_isAct_384 (by decide) ?_
                refine lv_goto (tgt := 389) hx hb dX3_isAct_385 (by decide) ?_
                have hP9 := hP.sub (ws' := []) [] rfl
                have hD9 := hD.sub (ws' := []) [] (by decide) rfl
                exact W.zret (v := 1) (ty := .boolean) hx hb hr rfl (fun t ht hW => ⟨⟨1, (fun _ => 0), rfl, (Or.inl ⟨rfl, (okP_12 hk3).mpr (by omega)⟩), by rw [ht]; exact hP9, va_K.moved hW.alike hK, hD9⟩, hS.F ht⟩) hS.2.2 dX3_isAct_389
    · refine lv_tableIn (tgt := 390) (off := 389) hx hb dX3_isAct_1 (by omega) (by omega) (by rw [hk3]; rfl) (by decide) ?_
      refine lv_iload_n hx hb dX3_isAct_390 rfl (lv_at hl 1 rfl) ?_
      refine vp_callSi (va_runSN (As := [.int aa]) (rest := []) ⟨hx, hb, hml, hown, hts⟩ (c_X4_isVariable l aa) (⟨va_cnB 1 hts g_X3_isAct_X4_isVariable_23 rfl rfl rfl (hN.2.2.2.1) (hts (.initialized RX4) (List.mem_of_getElem? (i := 2) rfl)) (by decide +kernel) ⟨Nat.le_of_ble_eq_true rfl, Nat.le_of_ble_eq_true rfl⟩, hts (.static yX4_isVariable) (List.mem_of_getElem? (i := 3) rfl), trivial⟩) ⟨fun _ _ _ _ q => q, fun _ _ _ => ⟨rfl, trivial⟩⟩ rfl rfl hl.1 rfl (lv_room (Nat.le_of_ble_eq_true rfl)) dX3_isAct_391 ⟨Nat.le_of_ble_eq_true rfl, Nat.le_of_ble_eq_true rfl⟩).run (fun r_82 hw_82 => ?_)
      refine lv_if_eq (tgt := 408) hx hb dX3_isAct_394 (by decide) (fun c_83 => ?_) (fun c_83 => ?_)
      · -- yes
        have k_83 : ¬ (V6 aa) := two_z hw_82 c_83
        refine lv_iconst (v := 0) hx hb dX3_isAct_408 (by decide) ?_
        have hP9 := hP.sub (ws' := []) [] rfl
        have hD9 := hD.sub (ws' := []) [] (by decide) rfl
        exact W.zret (v := 0) (ty := .boolean) hx hb hr rfl (fun t ht hW => ⟨⟨0, (fun _ => 0), rfl, (Or.inr ⟨rfl, fun h9 => by have h8 := (okP_13 hk3).mp h9; omega⟩), by rw [ht]; exact hP9, va_K.moved hW.alike hK, hD9⟩, hS.F ht⟩) hS.2.2 dX3_isAct_409
      · -- no
        have k_83 : V6 aa := two_nz hw_82 c_83
        refine lv_iload_n hx hb dX3_isAct_397 rfl (lv_at hl 2 rfl) ?_
        refine vp_callSi (va_runSN (As := [.int ba]) (rest := []) ⟨hx, hb, hml, hown, hts⟩ (c_X4_isReference l ba) (⟨va_cnB 1 hts g_X3_isAct_X4_isReference_30 rfl rfl rfl (hN.2.2.2.2.2.1) (hts (.initialized RX4) (List.mem_of_getElem? (i := 2) rfl)) (by decide +kernel) ⟨Nat.le_of_ble_eq_true rfl, Nat.le_of_ble_eq_true rfl⟩, hts (.static yX4_isReference) (List.mem_of_getElem? (i := 9) rfl), trivial⟩) ⟨fun _ _ _ _ q => q, fun _ _ _ => ⟨rfl, trivial⟩⟩ rfl rfl hl.1 rfl (lv_room (Nat.le_of_ble_eq_true rfl)) dX3_isAct_398 ⟨Nat.le_of_ble_eq_true rfl, Nat.le_of_ble_eq_true rfl⟩).run (fun r_84 hw_84 => ?_)
        refine lv_if_eq (tgt := 408) hx hb dX3_isAct_401 (by decide) (fun c_85 => ?_) (fun c_85 => ?_)
        · -- yes
          have k_85 : ¬ (V6 ba) := two_z hw_84 c_85
          refine lv_iconst (v := 0) hx hb dX3_isAct_408 (by decide) ?_
          have hP9 := hP.sub (ws' := []) [] rfl
          have hD9 := hD.sub (ws' := []) [] (by decide) rfl
          exact W.zret (v := 0) (ty := .boolean) hx hb hr rfl (fun t ht hW => ⟨⟨0, (fun _ => 0), rfl, (Or.inr ⟨rfl, fun h9 => by have h8 := (okP_13 hk3).mp h9; omega⟩), by rw [ht]; exact hP9, va_K.moved hW.alike hK, hD9⟩, hS.F ht⟩) hS.2.2 dX3_isAct_409
        · -- no
          have k_85 : V6 ba := two_nz hw_84 c_85
          refine lv_iconst (v := 1) hx hb dX3_isAct_404 (by decide) ?_
          refine lv_goto (tgt := 409) hx hb dX3_isAct_405 (by decide) ?_
          have hP9 := hP.sub (ws' := []) [] rfl
          have hD9 := hD.sub (ws' := []) [] (by decide) rfl
          exact W.zret (v := 1) (ty := .boolean) hx hb hr rfl (fun t ht hW => ⟨⟨1, (fun _ => 0), rfl, (Or.inl ⟨rfl, (okP_13 hk3).mpr (by omega)⟩), by rw [ht]; exact hP9, va_K.moved hW.alike hK, hD9⟩, hS.F ht⟩) hS.2.2 dX3_isAct_409
    · refine lv_tableIn (tgt := 410) (off := 409) hx hb dX3_isAct_1 (by omega) (by omega) (by rw [hk3]; rfl) (by decide) ?_
      refine lv_iload_n hx hb dX3_isAct_410 rfl (lv_at hl 2 rfl) ?_
      refine lv_iconst (v := 1) hx hb dX3_isAct_411 (by decide) ?_
      refine lv_icmp_lt (tgt := 425) hx hb dX3_isAct_412 (by decide) (fun c_86 => ?_) (fun c_86 => ?_)
      · -- yes
        have k_86 : (ba.toInt : Int) < (1 : Int) := by first | exact lt_i c_86 | simpa using lt_i c_86
        refine lv_iconst (v := 0) hx hb dX3_isAct_425 (by decide) ?_
        have hP9 := hP.sub (ws' := []) [] rfl
        have hD9 := hD.sub (ws' := []) [] (by decide) rfl
        exact W.zret (v := 0) (ty := .boolean) hx hb hr rfl (fun t ht hW => ⟨⟨0, (fun _ => 0), rfl, (Or.inr ⟨rfl, fun h9 => by have h8 := (okP_14 hk3).mp h9; omega⟩), by rw [ht]; exact hP9, va_K.moved hW.alike hK, hD9⟩, hS.F ht⟩) hS.2.2 dX3_isAct_426
      · -- no
        have k_86 : (1 : Int) ≤ (ba.toInt : Int) := by first | exact nlt_i c_86 | simpa using nlt_i c_86
        refine lv_iload_n hx hb dX3_isAct_415 rfl (lv_at hl 2 rfl) ?_
        refine lv_bipush (v := 10) hx hb dX3_isAct_416 (by decide) ?_
        refine lv_icmp_gt (tgt := 425) hx hb dX3_isAct_418 (by decide) (fun c_87 => ?_) (fun c_87 => ?_)
        · -- yes
          have k_87 : (10 : Int) < (ba.toInt : Int) := by first | exact lt_i c_87 | simpa using lt_i c_87
          refine lv_iconst (v := 0) hx hb dX3_isAct_425 (by decide) ?_
          have hP9 := hP.sub (ws' := []) [] rfl
          have hD9 := hD.sub (ws' := []) [] (by decide) rfl
          exact W.zret (v := 0) (ty := .boolean) hx hb hr rfl (fun t ht hW => ⟨⟨0, (fun _ => 0), rfl, (Or.inr ⟨rfl, fun h9 => by have h8 := (okP_14 hk3).mp h9; omega⟩), by rw [ht]; exact hP9, va_K.moved hW.alike hK, hD9⟩, hS.F ht⟩) hS.2.2 dX3_isAct_426
        · -- no
          have k_87 : (ba.toInt : Int) ≤ (10 : Int) := by first | exact nlt_i c_87 | simpa using nlt_i c_87
          refine lv_iconst (v := 1) hx hb dX3_isAct_421 (by decide) ?_
          refine lv_goto (tgt := 426) hx hb dX3_isAct_422 (by decide) ?_
          have hP9 := hP.sub (ws' := []) [] rfl
          have hD9 := hD.sub (ws' := []) [] (by decide) rfl
          exact W.zret (v := 1) (ty := .boolean) hx hb hr rfl (fun t ht hW => ⟨⟨1, (fun _ => 0), rfl, (Or.inl ⟨rfl, (okP_14 hk3).mpr (by omega)⟩), by rw [ht]; exact hP9, va_K.moved hW.alike hK, hD9⟩, hS.F ht⟩) hS.2.2 dX3_isAct_426

def w_X5_isAct : List Cond := .code yX5_isAct cX5_isAct 6 (some .boolean) :: ([.methodLink RX5 115 yX5_isName, .static yX5_isName, .initialized RX5, .code yX5_isName cX5_isName 1 (some .boolean), .methodLink RX5 119 yX5_isNumber, .static yX5_isNumber, .code yX5_isNumber cX5_isNumber 1 (some .boolean), .constant RX5 113 (-1000000), .constant RX5 114 (1000000), .methodLink RX5 122 yX5_isLane, .static yX5_isLane, .code yX5_isLane cX5_isLane 1 (some .boolean)])
set_option maxRecDepth 20000 in
theorem g_X5_isAct_X5_isName_115 : GoodIn w_X5_isAct (va_wsS RX5 115 yX5_isName w_X5_isName) := goodIn_r _ [1, 2, 3, 4] (by decide +kernel) (by decide +kernel)
set_option maxRecDepth 20000 in
theorem g_X5_isAct_X5_isNumber_119 : GoodIn w_X5_isAct (va_wsS RX5 119 yX5_isNumber w_X5_isNumber) := goodIn_r _ [5, 6, 3, 7, 8, 9] (by decide +kernel) (by decide +kernel)
set_option maxRecDepth 20000 in
theorem g_X5_isAct_X5_isLane_122 : GoodIn w_X5_isAct (va_wsS RX5 122 yX5_isLane w_X5_isLane) := goodIn_r _ [10, 11, 3, 12] (by decide +kernel) (by decide +kernel)
set_option maxHeartbeats 4000000 in
set_option maxRecDepth 100000 in
theorem c_X5_isAct (l : Launch) (ka : Int32) (aa : Int32) (ba : Int32) (ca : Int32) (da : Int32) (ea : Int32) : Met l yX5_isAct w_X5_isAct ({ frames := 1, cells := 0, slots := 0, locals := 20 }) (va_Pc [.int ka, .int aa, .int ba, .int ca, .int da, .int ea] (fun _ => True)) (vp_Si (fun (r : Int32) => two r (okP ka aa ba ca da ea) 1 0)) 0 0 (fun _ => False) := by
  refine Met.ofW (cc := cX5_isAct) (maxL := 6) (ret := (some .boolean)) (by decide) rfl ?_
  intro p e s m args below meth c s₁ B hml hv
  obtain ⟨rfl, -⟩ := hv
  have hx := B.exec
  have hb := B.bytes
  have hr := B.returns
  have hts := atoms_spec (ws := w_X5_isAct) B.pre
  have hown : s.vm.findClass RX5 = some m.cls := findClass_of_methodNamed B.named
  have hlocks := B.notSynchronized
  have hl := lv_entry ([.int ka, .int aa, .int ba, .int ca, .int da, .int ea]) (n := 6) (Nat.le_of_ble_eq_true rfl)
  rw [lg_entry_eq]
  generalize (lg_sl ([.int ka, .int aa, .int ba, .int ca, .int da, .int ea]) ++ List.replicate (6 - (lg_sl ([.int ka, .int aa, .int ba, .int ca, .int da, .int ea])).length) Slot.unset).toArray = ls at hl ⊢
  replace hl : lv_has ls 6 [(0, .int ka), (1, .int aa), (2, .int ba), (3, .int ca), (4, .int da), (5, .int ea)] := hl
  refine lv_iload_n hx hb dX5_isAct_0 rfl (lv_at hl 0 rfl) ?_
  by_cases hk : ka.toInt < 0 ∨ 14 < ka.toInt
  · refine lv_tableOut (tgt := 380) hx hb dX5_isAct_1 hk (by decide) ?_
    refine lv_iconst (v := 0) hx hb dX5_isAct_380 (by decide) ?_
    exact W.zret (v := 0) (ty := .boolean) hx hb hr rfl (fun t ht hW => ⟨0, rfl, (Or.inr ⟨rfl, okP_out hk⟩), ht⟩) (by intro q hq; cases hq) dX5_isAct_381
  · have hk2 : ka.toInt = 0 ∨ ka.toInt = 1 ∨ ka.toInt = 2 ∨ ka.toInt = 3 ∨ ka.toInt = 4 ∨ ka.toInt = 5 ∨ ka.toInt = 6 ∨ ka.toInt = 7 ∨ ka.toInt = 8 ∨ ka.toInt = 9 ∨ ka.toInt = 10 ∨ ka.toInt = 11 ∨ ka.toInt = 12 ∨ ka.toInt = 13 ∨ ka.toInt = 14 := by omega
    rcases hk2 with hk3 | hk3 | hk3 | hk3 | hk3 | hk3 | hk3 | hk3 | hk3 | hk3 | hk3 | hk3 | hk3 | hk3 | hk3
    · refine lv_tableIn (tgt := 76) (off := 75) hx hb dX5_isAct_1 (by omega) (by omega) (by rw [hk3]; rfl) (by decide) ?_
      refine lv_iload_n hx hb dX5_isAct_76 rfl (lv_at hl 1 rfl) ?_
      refine vp_callSi (va_runS (As := [.int aa]) (rest := []) ⟨hx, hb, hml, hown, hts⟩ (c_X5_isName l aa) (va_cwS 1 hts g_X5_isAct_X5_isName_115 rfl rfl rfl (by decide +kernel) ⟨Nat.le_of_ble_eq_true rfl, Nat.le_of_ble_eq_true rfl⟩) ⟨fun _ _ _ _ q => q, fun _ _ _ => ⟨rfl, trivial⟩⟩ rfl rfl hl.1 rfl (lv_room (Nat.le_of_ble_eq_true rfl)) dX5_isAct_77 ⟨Nat.le_of_ble_eq_true rfl, Nat.le_of_ble_eq_true rfl⟩).run (fun r_1 hw_1 => ?_)
      refine lv_if_eq (tgt := 94) hx hb dX5_isAct_80 (by decide) (fun c_2 => ?_) (fun c_2 => ?_)
      · -- yes
        have k_2 : ¬ (V6 aa) := two_z hw_1 c_2
        refine lv_iconst (v := 0) hx hb dX5_isAct_94 (by decide) ?_
        exact W.zret (v := 0) (ty := .boolean) hx hb hr rfl (fun t ht hW => ⟨0, rfl, (Or.inr ⟨rfl, fun h9 => by have h8 := (okP_0 hk3).mp h9; omega⟩), ht⟩) (by intro q hq; cases hq) dX5_isAct_95
      · -- no
        have k_2 : V6 aa := two_nz hw_1 c_2
        refine lv_iload_n hx hb dX5_isAct_83 rfl (lv_at hl 2 rfl) ?_
        refine vp_callSi (va_runS (As := [.int ba]) (rest := []) ⟨hx, hb, hml, hown, hts⟩ (c_X5_isNumber l ba) (va_cwS 1 hts g_X5_isAct_X5_isNumber_119 rfl rfl rfl (by decide +kernel) ⟨Nat.le_of_ble_eq_true rfl, Nat.le_of_ble_eq_true rfl⟩) ⟨fun _ _ _ _ q => q, fun _ _ _ => ⟨rfl, trivial⟩⟩ rfl rfl hl.1 rfl (lv_room (Nat.le_of_ble_eq_true rfl)) dX5_isAct_84 ⟨Nat.le_of_ble_eq_true rfl, Nat.le_of_ble_eq_true rfl⟩).run (fun r_3 hw_3 => ?_)
        refine lv_if_eq (tgt := 94) hx hb dX5_isAct_87 (by decide) (fun c_4 => ?_) (fun c_4 => ?_)
        · -- yes
          have k_4 : ¬ (VN ba) := two_z hw_3 c_4
          refine lv_iconst (v := 0) hx hb dX5_isAct_94 (by decide) ?_
          exact W.zret (v := 0) (ty := .boolean) hx hb hr rfl (fun t ht hW => ⟨0, rfl, (Or.inr ⟨rfl, fun h9 => by have h8 := (okP_0 hk3).mp h9; omega⟩), ht⟩) (by intro q hq; cases hq) dX5_isAct_95
        · -- no
          have k_4 : VN ba := two_nz hw_3 c_4
          refine lv_iconst (v := 1) hx hb dX5_isAct_90 (by decide) ?_
          refine lv_goto (tgt := 95) hx hb dX5_isAct_91 (by decide) ?_
          exact W.zret (v := 1) (ty := .boolean) hx hb hr rfl (fun t ht hW => ⟨1, rfl, (Or.inl ⟨rfl, (okP_0 hk3).mpr (by omega)⟩), ht⟩) (by intro q hq; cases hq) dX5_isAct_95
    · refine lv_tableIn (tgt := 96) (off := 95) hx hb dX5_isAct_1 (by omega) (by omega) (by rw [hk3]; rfl) (by decide) ?_
      refine lv_iload_n hx hb dX5_isAct_96 rfl (lv_at hl 1 rfl) ?_
      refine vp_callSi (va_runS (As := [.int aa]) (rest := []) ⟨hx, hb, hml, hown, hts⟩ (c_X5_isName l aa) (va_cwS 1 hts g_X5_isAct_X5_isName_115 rfl rfl rfl (by decide +kernel) ⟨Nat.le_of_ble_eq_true rfl, Nat.le_of_ble_eq_true rfl⟩) ⟨fun _ _ _ _ q => q, fun _ _ _ => ⟨rfl, trivial⟩⟩ rfl rfl hl.1 rfl (lv_room (Nat.le_of_ble_eq_true rfl)) dX5_isAct_97 ⟨Nat.le_of_ble_eq_true rfl, Nat.le_of_ble_eq_true rfl⟩).run (fun r_5 hw_5 => ?_)
      refine lv_if_eq (tgt := 126) hx hb dX5_isAct_100 (by decide) (fun c_6 => ?_) (fun c_6 => ?_)
      · -- yes
        have k_6 : ¬ (V6 aa) := two_z hw_5 c_6
        refine lv_iconst (v := 0) hx hb dX5_isAct_126 (by decide) ?_
        exact W.zret (v := 0) (ty := .boolean) hx hb hr rfl (fun t ht hW => ⟨0, rfl, (Or.inr ⟨rfl, fun h9 => by have h8 := (okP_1 hk3).mp h9; omega⟩), ht⟩) (by intro q hq; cases hq) dX5_isAct_127
      · -- no
        have k_6 : V6 aa := two_nz hw_5 c_6
        refine lv_iload_n hx hb dX5_isAct_103 rfl (lv_at hl 2 rfl) ?_
        refine vp_callSi (va_runS (As := [.int ba]) (rest := []) ⟨hx, hb, hml, hown, hts⟩ (c_X5_isNumber l ba) (va_cwS 1 hts g_X5_isAct_X5_isNumber_119 rfl rfl rfl (by decide +kernel) ⟨Nat.le_of_ble_eq_true rfl, Nat.le_of_ble_eq_true rfl⟩) ⟨fun _ _ _ _ q => q, fun _ _ _ => ⟨rfl, trivial⟩⟩ rfl rfl hl.1 rfl (lv_room (Nat.le_of_ble_eq_true rfl)) dX5_isAct_104 ⟨Nat.le_of_ble_eq_true rfl, Nat.le_of_ble_eq_true rfl⟩).run (fun r_7 hw_7 => ?_)
        refine lv_if_eq (tgt := 126) hx hb dX5_isAct_107 (by decide) (fun c_8 => ?_) (fun c_8 => ?_)
        · -- yes
          have k_8 : ¬ (VN ba) := two_z hw_7 c_8
          refine lv_iconst (v := 0) hx hb dX5_isAct_126 (by decide) ?_
          exact W.zret (v := 0) (ty := .boolean) hx hb hr rfl (fun t ht hW => ⟨0, rfl, (Or.inr ⟨rfl, fun h9 => by have h8 := (okP_1 hk3).mp h9; omega⟩), ht⟩) (by intro q hq; cases hq) dX5_isAct_127
        · -- no
          have k_8 : VN ba := two_nz hw_7 c_8
          refine lv_iload_n hx hb dX5_isAct_110 rfl (lv_at hl 3 rfl) ?_
          refine vp_callSi (va_runS (As := [.int ca]) (rest := []) ⟨hx, hb, hml, hown, hts⟩ (c_X5_isNumber l ca) (va_cwS 1 hts g_X5_isAct_X5_isNumber_119 rfl rfl rfl (by decide +kernel) ⟨Nat.le_of_ble_eq_true rfl, Nat.le_of_ble_eq_true rfl⟩) ⟨fun _ _ _ _ q => q, fun _ _ _ => ⟨rfl, trivial⟩⟩ rfl rfl hl.1 rfl (lv_room (Nat.le_of_ble_eq_true rfl)) dX5_isAct_111 ⟨Nat.le_of_ble_eq_true rfl, Nat.le_of_ble_eq_true rfl⟩).run (fun r_9 hw_9 => ?_)
          refine lv_if_eq (tgt := 126) hx hb dX5_isAct_114 (by decide) (fun c_10 => ?_) (fun c_10 => ?_)
          · -- yes
            have k_10 : ¬ (VN ca) := two_z hw_9 c_10
            refine lv_iconst (v := 0) hx hb dX5_isAct_126 (by decide) ?_
            exact W.zret (v := 0) (ty := .boolean) hx hb hr rfl (fun t ht hW => ⟨0, rfl, (Or.inr ⟨rfl, fun h9 => by have h8 := (okP_1 hk3).mp h9; omega⟩), ht⟩) (by intro q hq; cases hq) dX5_isAct_127
          · -- no
            have k_10 : VN ca := two_nz hw_9 c_10
            refine lv_iload_n hx hb dX5_isAct_117 rfl (lv_at hl 2 rfl) ?_
            refine lv_iload_n hx hb dX5_isAct_118 rfl (lv_at hl 3 rfl) ?_
            refine lv_icmp_gt (tgt := 126) hx hb dX5_isAct_119 (by decide) (fun c_11 => ?_) (fun c_11 => ?_)
            · -- yes
              have k_11 : (ca.toInt : Int) < (ba.toInt : Int) := by first | exact lt_i c_11 | simpa using lt_i c_11
              refine lv_iconst (v := 0) hx hb dX5_isAct_126 (by decide) ?_
              exact W.zret (v := 0) (ty := .boolean) hx hb hr rfl (fun t ht hW => ⟨0, rfl, (Or.inr ⟨rfl, fun h9 => by have h8 := (okP_1 hk3).mp h9; omega⟩), ht⟩) (by intro q hq; cases hq) dX5_isAct_127
            · -- no
              have k_11 : (ba.toInt : Int) ≤ (ca.toInt : Int) := by first | exact nlt_i c_11 | simpa using nlt_i c_11
              refine lv_iconst (v := 1) hx hb dX5_isAct_122 (by decide) ?_
              refine lv_goto (tgt := 127) hx hb dX5_isAct_123 (by decide) ?_
              exact W.zret (v := 1) (ty := .boolean) hx hb hr rfl (fun t ht hW => ⟨1, rfl, (Or.inl ⟨rfl, (okP_1 hk3).mpr (by omega)⟩), ht⟩) (by intro q hq; cases hq) dX5_isAct_127
    · refine lv_tableIn (tgt := 128) (off := 127) hx hb dX5_isAct_1 (by omega) (by omega) (by rw [hk3]; rfl) (by decide) ?_
      refine lv_iload_n hx hb dX5_isAct_128 rfl (lv_at hl 1 rfl) ?_
      refine vp_callSi (va_runS (As := [.int aa]) (rest := []) ⟨hx, hb, hml, hown, hts⟩ (c_X5_isName l aa) (va_cwS 1 hts g_X5_isAct_X5_isName_115 rfl rfl rfl (by decide +kernel) ⟨Nat.le_of_ble_eq_true rfl, Nat.le_of_ble_eq_true rfl⟩) ⟨fun _ _ _ _ q => q, fun _ _ _ => ⟨rfl, trivial⟩⟩ rfl rfl hl.1 rfl (lv_room (Nat.le_of_ble_eq_true rfl)) dX5_isAct_129 ⟨Nat.le_of_ble_eq_true rfl, Nat.le_of_ble_eq_true rfl⟩).run (fun r_12 hw_12 => ?_)
      refine lv_if_eq (tgt := 153) hx hb dX5_isAct_132 (by decide) (fun c_13 => ?_) (fun c_13 => ?_)
      · -- yes
        have k_13 : ¬ (V6 aa) := two_z hw_12 c_13
        refine lv_iconst (v := 0) hx hb dX5_isAct_153 (by decide) ?_
        exact W.zret (v := 0) (ty := .boolean) hx hb hr rfl (fun t ht hW => ⟨0, rfl, (Or.inr ⟨rfl, fun h9 => by have h8 := (okP_2 hk3).mp h9; omega⟩), ht⟩) (by intro q hq; cases hq) dX5_isAct_154
      · -- no
        have k_13 : V6 aa := two_nz hw_12 c_13
        refine lv_iload_n hx hb dX5_isAct_135 rfl (lv_at hl 2 rfl) ?_
        refine vp_callSi (va_runS (As := [.int ba]) (rest := []) ⟨hx, hb, hml, hown, hts⟩ (c_X5_isName l ba) (va_cwS 1 hts g_X5_isAct_X5_isName_115 rfl rfl rfl (by decide +kernel) ⟨Nat.le_of_ble_eq_true rfl, Nat.le_of_ble_eq_true rfl⟩) ⟨fun _ _ _ _ q => q, fun _ _ _ => ⟨rfl, trivial⟩⟩ rfl rfl hl.1 rfl (lv_room (Nat.le_of_ble_eq_true rfl)) dX5_isAct_136 ⟨Nat.le_of_ble_eq_true rfl, Nat.le_of_ble_eq_true rfl⟩).run (fun r_14 hw_14 => ?_)
        refine lv_if_eq (tgt := 153) hx hb dX5_isAct_139 (by decide) (fun c_15 => ?_) (fun c_15 => ?_)
        · -- yes
          have k_15 : ¬ (V6 ba) := two_z hw_14 c_15
          refine lv_iconst (v := 0) hx hb dX5_isAct_153 (by decide) ?_
          exact W.zret (v := 0) (ty := .boolean) hx hb hr rfl (fun t ht hW => ⟨0, rfl, (Or.inr ⟨rfl, fun h9 => by have h8 := (okP_2 hk3).mp h9; omega⟩), ht⟩) (by intro q hq; cases hq) dX5_isAct_154
        · -- no
          have k_15 : V6 ba := two_nz hw_14 c_15
          refine lv_iload_n hx hb dX5_isAct_142 rfl (lv_at hl 3 rfl) ?_
          refine vp_callSi (va_runS (As := [.int ca]) (rest := []) ⟨hx, hb, hml, hown, hts⟩ (c_X5_isName l ca) (va_cwS 1 hts g_X5_isAct_X5_isName_115 rfl rfl rfl (by decide +kernel) ⟨Nat.le_of_ble_eq_true rfl, Nat.le_of_ble_eq_true rfl⟩) ⟨fun _ _ _ _ q => q, fun _ _ _ => ⟨rfl, trivial⟩⟩ rfl rfl hl.1 rfl (lv_room (Nat.le_of_ble_eq_true rfl)) dX5_isAct_143 ⟨Nat.le_of_ble_eq_true rfl, Nat.le_of_ble_eq_true rfl⟩).run (fun r_16 hw_16 => ?_)
          refine lv_if_eq (tgt := 153) hx hb dX5_isAct_146 (by decide) (fun c_17 => ?_) (fun c_17 => ?_)
          · -- yes
            have k_17 : ¬ (V6 ca) := two_z hw_16 c_17
            refine lv_iconst (v := 0) hx hb dX5_isAct_153 (by decide) ?_
            exact W.zret (v := 0) (ty := .boolean) hx hb hr rfl (fun t ht hW => ⟨0, rfl, (Or.inr ⟨rfl, fun h9 => by have h8 := (okP_2 hk3).mp h9; omega⟩), ht⟩) (by intro q hq; cases hq) dX5_isAct_154
          · -- no
            have k_17 : V6 ca := two_nz hw_16 c_17
            refine lv_iconst (v := 1) hx hb dX5_isAct_149 (by decide) ?_
            refine lv_goto (tgt := 154) hx hb dX5_isAct_150 (by decide) ?_
            exact W.zret (v := 1) (ty := .boolean) hx hb hr rfl (fun t ht hW => ⟨1, rfl, (Or.inl ⟨rfl, (okP_2 hk3).mpr (by omega)⟩), ht⟩) (by intro q hq; cases hq) dX5_isAct_154
    · refine lv_tableIn (tgt := 128) (off := 127) hx hb dX5_isAct_1 (by omega) (by omega) (by rw [hk3]; rfl) (by decide) ?_
      refine lv_iload_n hx hb dX5_isAct_128 rfl (lv_at hl 1 rfl) ?_
      refine vp_callSi (va_runS (As := [.int aa]) (rest := []) ⟨hx, hb, hml, hown, hts⟩ (c_X5_isName l aa) (va_cwS 1 hts g_X5_isAct_X5_isName_115 rfl rfl rfl (by decide +kernel) ⟨Nat.le_of_ble_eq_true rfl, Nat.le_of_ble_eq_true rfl⟩) ⟨fun _ _ _ _ q => q, fun _ _ _ => ⟨rfl, trivial⟩⟩ rfl rfl hl.1 rfl (lv_room (Nat.le_of_ble_eq_true rfl)) dX5_isAct_129 ⟨Nat.le_of_ble_eq_true rfl, Nat.le_of_ble_eq_true rfl⟩).run (fun r_18 hw_18 => ?_)
      refine lv_if_eq (tgt := 153) hx hb dX5_isAct_132 (by decide) (fun c_19 => ?_) (fun c_19 => ?_)
      · -- yes
        have k_19 : ¬ (V6 aa) := two_z hw_18 c_19
        refine lv_iconst (v := 0) hx hb dX5_isAct_153 (by decide) ?_
        exact W.zret (v := 0) (ty := .boolean) hx hb hr rfl (fun t ht hW => ⟨0, rfl, (Or.inr ⟨rfl, fun h9 => by have h8 := (okP_3 hk3).mp h9; omega⟩), ht⟩) (by intro q hq; cases hq) dX5_isAct_154
      · -- no
        have k_19 : V6 aa := two_nz hw_18 c_19
        refine lv_iload_n hx hb dX5_isAct_135 rfl (lv_at hl 2 rfl) ?_
        refine vp_callSi (va_runS (As := [.int ba]) (rest := []) ⟨hx, hb, hml, hown, hts⟩ (c_X5_isName l ba) (va_cwS 1 hts g_X5_isAct_X5_isName_115 rfl rfl rfl (by decide +kernel) ⟨Nat.le_of_ble_eq_true rfl, Nat.le_of_ble_eq_true rfl⟩) ⟨fun _ _ _ _ q => q, fun _ _ _ => ⟨rfl, trivial⟩⟩ rfl rfl hl.1 rfl (lv_room (Nat.le_of_ble_eq_true rfl)) dX5_isAct_136 ⟨Nat.le_of_ble_eq_true rfl, Nat.le_of_ble_eq_true rfl⟩).run (fun r_20 hw_20 => ?_)
        refine lv_if_eq (tgt := 153) hx hb dX5_isAct_139 (by decide) (fun c_21 => ?_) (fun c_21 => ?_)
        · -- yes
          have k_21 : ¬ (V6 ba) := two_z hw_20 c_21
          refine lv_iconst (v := 0) hx hb dX5_isAct_153 (by decide) ?_
          exact W.zret (v := 0) (ty := .boolean) hx hb hr rfl (fun t ht hW => ⟨0, rfl, (Or.inr ⟨rfl, fun h9 => by have h8 := (okP_3 hk3).mp h9; omega⟩), ht⟩) (by intro q hq; cases hq) dX5_isAct_154
        · -- no
          have k_21 : V6 ba := two_nz hw_20 c_21
          refine lv_iload_n hx hb dX5_isAct_142 rfl (lv_at hl 3 rfl) ?_
          refine vp_callSi (va_runS (As := [.int ca]) (rest := []) ⟨hx, hb, hml, hown, hts⟩ (c_X5_isName l ca) (va_cwS 1 hts g_X5_isAct_X5_isName_115 rfl rfl rfl (by decide +kernel) ⟨Nat.le_of_ble_eq_true rfl, Nat.le_of_ble_eq_true rfl⟩) ⟨fun _ _ _ _ q => q, fun _ _ _ => ⟨rfl, trivial⟩⟩ rfl rfl hl.1 rfl (lv_room (Nat.le_of_ble_eq_true rfl)) dX5_isAct_143 ⟨Nat.le_of_ble_eq_true rfl, Nat.le_of_ble_eq_true rfl⟩).run (fun r_22 hw_22 => ?_)
          refine lv_if_eq (tgt := 153) hx hb dX5_isAct_146 (by decide) (fun c_23 => ?_) (fun c_23 => ?_)
          · -- yes
            have k_23 : ¬ (V6 ca) := two_z hw_22 c_23
            refine lv_iconst (v := 0) hx hb dX5_isAct_153 (by decide) ?_
            exact W.zret (v := 0) (ty := .boolean) hx hb hr rfl (fun t ht hW => ⟨0, rfl, (Or.inr ⟨rfl, fun h9 => by have h8 := (okP_3 hk3).mp h9; omega⟩), ht⟩) (by intro q hq; cases hq) dX5_isAct_154
          · -- no
            have k_23 : V6 ca := two_nz hw_22 c_23
            refine lv_iconst (v := 1) hx hb dX5_isAct_149 (by decide) ?_
            refine lv_goto (tgt := 154) hx hb dX5_isAct_150 (by decide) ?_
            exact W.zret (v := 1) (ty := .boolean) hx hb hr rfl (fun t ht hW => ⟨1, rfl, (Or.inl ⟨rfl, (okP_3 hk3).mpr (by omega)⟩), ht⟩) (by intro q hq; cases hq) dX5_isAct_154
    · refine lv_tableIn (tgt := 155) (off := 154) hx hb dX5_isAct_1 (by omega) (by omega) (by rw [hk3]; rfl) (by decide) ?_
      refine lv_iload_n hx hb dX5_isAct_155 rfl (lv_at hl 1 rfl) ?_
      refine vp_callSi (va_runS (As := [.int aa]) (rest := []) ⟨hx, hb, hml, hown, hts⟩ (c_X5_isName l aa) (va_cwS 1 hts g_X5_isAct_X5_isName_115 rfl rfl rfl (by decide +kernel) ⟨Nat.le_of_ble_eq_true rfl, Nat.le_of_ble_eq_true rfl⟩) ⟨fun _ _ _ _ q => q, fun _ _ _ => ⟨rfl, trivial⟩⟩ rfl rfl hl.1 rfl (lv_room (Nat.le_of_ble_eq_true rfl)) dX5_isAct_156 ⟨Nat.le_of_ble_eq_true rfl, Nat.le_of_ble_eq_true rfl⟩).run (fun r_24 hw_24 => ?_)
      refine lv_if_eq (tgt := 180) hx hb dX5_isAct_159 (by decide) (fun c_25 => ?_) (fun c_25 => ?_)
      · -- yes
        have k_25 : ¬ (V6 aa) := two_z hw_24 c_25
        refine lv_iconst (v := 0) hx hb dX5_isAct_180 (by decide) ?_
        exact W.zret (v := 0) (ty := .boolean) hx hb hr rfl (fun t ht hW => ⟨0, rfl, (Or.inr ⟨rfl, fun h9 => by have h8 := (okP_4 hk3).mp h9; omega⟩), ht⟩) (by intro q hq; cases hq) dX5_isAct_181
      · -- no
        have k_25 : V6 aa := two_nz hw_24 c_25
        refine lv_iload_n hx hb dX5_isAct_162 rfl (lv_at hl 2 rfl) ?_
        refine vp_callSi (va_runS (As := [.int ba]) (rest := []) ⟨hx, hb, hml, hown, hts⟩ (c_X5_isLane l ba) (va_cwS 1 hts g_X5_isAct_X5_isLane_122 rfl rfl rfl (by decide +kernel) ⟨Nat.le_of_ble_eq_true rfl, Nat.le_of_ble_eq_true rfl⟩) ⟨fun _ _ _ _ q => q, fun _ _ _ => ⟨rfl, trivial⟩⟩ rfl rfl hl.1 rfl (lv_room (Nat.le_of_ble_eq_true rfl)) dX5_isAct_163 ⟨Nat.le_of_ble_eq_true rfl, Nat.le_of_ble_eq_true rfl⟩).run (fun r_26 hw_26 => ?_)
        refine lv_if_eq (tgt := 180) hx hb dX5_isAct_166 (by decide) (fun c_27 => ?_) (fun c_27 => ?_)
        · -- yes
          have k_27 : ¬ (V3 ba) := two_z hw_26 c_27
          refine lv_iconst (v := 0) hx hb dX5_isAct_180 (by decide) ?_
          exact W.zret (v := 0) (ty := .boolean) hx hb hr rfl (fun t ht hW => ⟨0, rfl, (Or.inr ⟨rfl, fun h9 => by have h8 := (okP_4 hk3).mp h9; omega⟩), ht⟩) (by intro q hq; cases hq) dX5_isAct_181
        · -- no
          have k_27 : V3 ba := two_nz hw_26 c_27
          refine lv_iload_n hx hb dX5_isAct_169 rfl (lv_at hl 3 rfl) ?_
          refine vp_callSi (va_runS (As := [.int ca]) (rest := []) ⟨hx, hb, hml, hown, hts⟩ (c_X5_isName l ca) (va_cwS 1 hts g_X5_isAct_X5_isName_115 rfl rfl rfl (by decide +kernel) ⟨Nat.le_of_ble_eq_true rfl, Nat.le_of_ble_eq_true rfl⟩) ⟨fun _ _ _ _ q => q, fun _ _ _ => ⟨rfl, trivial⟩⟩ rfl rfl hl.1 rfl (lv_room (Nat.le_of_ble_eq_true rfl)) dX5_isAct_170 ⟨Nat.le_of_ble_eq_true rfl, Nat.le_of_ble_eq_true rfl⟩).run (fun r_28 hw_28 => ?_)
          refine lv_if_eq (tgt := 180) hx hb dX5_isAct_173 (by decide) (fun c_29 => ?_) (fun c_29 => ?_)
          · -- yes
            have k_29 : ¬ (V6 ca) := two_z hw_28 c_29
            refine lv_iconst (v := 0) hx hb dX5_isAct_180 (by decide) ?_
            exact W.zret (v := 0) (ty := .boolean) hx hb hr rfl (fun t ht hW => ⟨0, rfl, (Or.inr ⟨rfl, fun h9 => by have h8 := (okP_4 hk3).mp h9; omega⟩), ht⟩) (by intro q hq; cases hq) dX5_isAct_181
          · -- no
            have k_29 : V6 ca := two_nz hw_28 c_29
            refine lv_iconst (v := 1) hx hb dX5_isAct_176 (by decide) ?_
            refine lv_goto (tgt := 181) hx hb dX5_isAct_177 (by decide) ?_
            exact W.zret (v := 1) (ty := .boolean) hx hb hr rfl (fun t ht hW => ⟨1, rfl, (Or.inl ⟨rfl, (okP_4 hk3).mpr (by omega)⟩), ht⟩) (by intro q hq; cases hq) dX5_isAct_181
    · refine lv_tableIn (tgt := 182) (off := 181) hx hb dX5_isAct_1 (by omega) (by omega) (by rw [hk3]; rfl) (by decide) ?_
      refine lv_iload_n hx hb dX5_isAct_182 rfl (lv_at hl 1 rfl) ?_
      refine vp_callSi (va_runS (As := [.int aa]) (rest := []) ⟨hx, hb, hml, hown, hts⟩ (c_X5_isName l aa) (va_cwS 1 hts g_X5_isAct_X5_isName_115 rfl rfl rfl (by decide +kernel) ⟨Nat.le_of_ble_eq_true rfl, Nat.le_of_ble_eq_true rfl⟩) ⟨fun _ _ _ _ q => q, fun _ _ _ => ⟨rfl, trivial⟩⟩ rfl rfl hl.1 rfl (lv_room (Nat.le_of_ble_eq_true rfl)) dX5_isAct_183 ⟨Nat.le_of_ble_eq_true rfl, Nat.le_of_ble_eq_true rfl⟩).run (fun r_30 hw_30 => ?_)
      rcases hw_30 with ⟨rfl, k_31⟩ | ⟨rfl, k_31⟩
      · -- answer 1
        exact W.zret (v := 1) (ty := .boolean) hx hb hr rfl (fun t ht hW => ⟨1, rfl, (Or.inl ⟨rfl, (okP_5 hk3).mpr (by omega)⟩), ht⟩) (by intro q hq; cases hq) dX5_isAct_186
      · -- answer 0
        exact W.zret (v := 0) (ty := .boolean) hx hb hr rfl (fun t ht hW => ⟨0, rfl, (Or.inr ⟨rfl, fun h9 => by have h8 := (okP_5 hk3).mp h9; omega⟩), ht⟩) (by intro q hq; cases hq) dX5_isAct_186
    · refine lv_tableIn (tgt := 187) (off := 186) hx hb dX5_isAct_1 (by omega) (by omega) (by rw [hk3]; rfl) (by decide) ?_
      refine lv_iload_n hx hb dX5_isAct_187 rfl (lv_at hl 1 rfl) ?_
      refine vp_callSi (va_runS (As := [.int aa]) (rest := []) ⟨hx, hb, hml, hown, hts⟩ (c_X5_isName l aa) (va_cwS 1 hts g_X5_isAct_X5_isName_115 rfl rfl rfl (by decide +kernel) ⟨Nat.le_of_ble_eq_true rfl, Nat.le_of_ble_eq_true rfl⟩) ⟨fun _ _ _ _ q => q, fun _ _ _ => ⟨rfl, trivial⟩⟩ rfl rfl hl.1 rfl (lv_room (Nat.le_of_ble_eq_true rfl)) dX5_isAct_188 ⟨Nat.le_of_ble_eq_true rfl, Nat.le_of_ble_eq_true rfl⟩).run (fun r_32 hw_32 => ?_)
      refine lv_if_eq (tgt := 205) hx hb dX5_isAct_191 (by decide) (fun c_33 => ?_) (fun c_33 => ?_)
      · -- yes
        have k_33 : ¬ (V6 aa) := two_z hw_32 c_33
        refine lv_iconst (v := 0) hx hb dX5_isAct_205 (by decide) ?_
        exact W.zret (v := 0) (ty := .boolean) hx hb hr rfl (fun t ht hW => ⟨0, rfl, (Or.inr ⟨rfl, fun h9 => by have h8 := (okP_6 hk3).mp h9; omega⟩), ht⟩) (by intro q hq; cases hq) dX5_isAct_206
      · -- no
        have k_33 : V6 aa := two_nz hw_32 c_33
        refine lv_iload_n hx hb dX5_isAct_194 rfl (lv_at hl 2 rfl) ?_
        refine vp_callSi (va_runS (As := [.int ba]) (rest := []) ⟨hx, hb, hml, hown, hts⟩ (c_X5_isName l ba) (va_cwS 1 hts g_X5_isAct_X5_isName_115 rfl rfl rfl (by decide +kernel) ⟨Nat.le_of_ble_eq_true rfl, Nat.le_of_ble_eq_true rfl⟩) ⟨fun _ _ _ _ q => q, fun _ _ _ => ⟨rfl, trivial⟩⟩ rfl rfl hl.1 rfl (lv_room (Nat.le_of_ble_eq_true rfl)) dX5_isAct_195 ⟨Nat.le_of_ble_eq_true rfl, Nat.le_of_ble_eq_true rfl⟩).run (fun r_34 hw_34 => ?_)
        refine lv_if_eq (tgt := 205) hx hb dX5_isAct_198 (by decide) (fun c_35 => ?_) (fun c_35 => ?_)
        · -- yes
          have k_35 : ¬ (V6 ba) := two_z hw_34 c_35
          refine lv_iconst (v := 0) hx hb dX5_isAct_205 (by decide) ?_
          exact W.zret (v := 0) (ty := .boolean) hx hb hr rfl (fun t ht hW => ⟨0, rfl, (Or.inr ⟨rfl, fun h9 => by have h8 := (okP_6 hk3).mp h9; omega⟩), ht⟩) (by intro q hq; cases hq) dX5_isAct_206
        · -- no
          have k_35 : V6 ba := two_nz hw_34 c_35
          refine lv_iconst (v := 1) hx hb dX5_isAct_201 (by decide) ?_
          refine lv_goto (tgt := 206) hx hb dX5_isAct_202 (by decide) ?_
          exact W.zret (v := 1) (ty := .boolean) hx hb hr rfl (fun t ht hW => ⟨1, rfl, (Or.inl ⟨rfl, (okP_6 hk3).mpr (by omega)⟩), ht⟩) (by intro q hq; cases hq) dX5_isAct_206
    · refine lv_tableIn (tgt := 128) (off := 127) hx hb dX5_isAct_1 (by omega) (by omega) (by rw [hk3]; rfl) (by decide) ?_
      refine lv_iload_n hx hb dX5_isAct_128 rfl (lv_at hl 1 rfl) ?_
      refine vp_callSi (va_runS (As := [.int aa]) (rest := []) ⟨hx, hb, hml, hown, hts⟩ (c_X5_isName l aa) (va_cwS 1 hts g_X5_isAct_X5_isName_115 rfl rfl rfl (by decide +kernel) ⟨Nat.le_of_ble_eq_true rfl, Nat.le_of_ble_eq_true rfl⟩) ⟨fun _ _ _ _ q => q, fun _ _ _ => ⟨rfl, trivial⟩⟩ rfl rfl hl.1 rfl (lv_room (Nat.le_of_ble_eq_true rfl)) dX5_isAct_129 ⟨Nat.le_of_ble_eq_true rfl, Nat.le_of_ble_eq_true rfl⟩).run (fun r_36 hw_36 => ?_)
      refine lv_if_eq (tgt := 153) hx hb dX5_isAct_132 (by decide) (fun c_37 => ?_) (fun c_37 => ?_)
      · -- yes
        have k_37 : ¬ (V6 aa) := two_z hw_36 c_37
        refine lv_iconst (v := 0) hx hb dX5_isAct_153 (by decide) ?_
        exact W.zret (v := 0) (ty := .boolean) hx hb hr rfl (fun t ht hW => ⟨0, rfl, (Or.inr ⟨rfl, fun h9 => by have h8 := (okP_7 hk3).mp h9; omega⟩), ht⟩) (by intro q hq; cases hq) dX5_isAct_154
      · -- no
        have k_37 : V6 aa := two_nz hw_36 c_37
        refine lv_iload_n hx hb dX5_isAct_135 rfl (lv_at hl 2 rfl) ?_
        refine vp_callSi (va_runS (As := [.int ba]) (rest := []) ⟨hx, hb, hml, hown, hts⟩ (c_X5_isName l ba) (va_cwS 1 hts g_X5_isAct_X5_isName_115 rfl rfl rfl (by decide +kernel) ⟨Nat.le_of_ble_eq_true rfl, Nat.le_of_ble_eq_true rfl⟩) ⟨fun _ _ _ _ q => q, fun _ _ _ => ⟨rfl, trivial⟩⟩ rfl rfl hl.1 rfl (lv_room (Nat.le_of_ble_eq_true rfl)) dX5_isAct_136 ⟨Nat.le_of_ble_eq_true rfl, Nat.le_of_ble_eq_true rfl⟩).run (fun r_38 hw_38 => ?_)
        refine lv_if_eq (tgt := 153) hx hb dX5_isAct_139 (by decide) (fun c_39 => ?_) (fun c_39 => ?_)
        · -- yes
          have k_39 : ¬ (V6 ba) := two_z hw_38 c_39
          refine lv_iconst (v := 0) hx hb dX5_isAct_153 (by decide) ?_
          exact W.zret (v := 0) (ty := .boolean) hx hb hr rfl (fun t ht hW => ⟨0, rfl, (Or.inr ⟨rfl, fun h9 => by have h8 := (okP_7 hk3).mp h9; omega⟩), ht⟩) (by intro q hq; cases hq) dX5_isAct_154
        · -- no
          have k_39 : V6 ba := two_nz hw_38 c_39
          refine lv_iload_n hx hb dX5_isAct_142 rfl (lv_at hl 3 rfl) ?_
          refine vp_callSi (va_runS (As := [.int ca]) (rest := []) ⟨hx, hb, hml, hown, hts⟩ (c_X5_isName l ca) (va_cwS 1 hts g_X5_isAct_X5_isName_115 rfl rfl rfl (by decide +kernel) ⟨Nat.le_of_ble_eq_true rfl, Nat.le_of_ble_eq_true rfl⟩) ⟨fun _ _ _ _ q => q, fun _ _ _ => ⟨rfl, trivial⟩⟩ rfl rfl hl.1 rfl (lv_room (Nat.le_of_ble_eq_true rfl)) dX5_isAct_143 ⟨Nat.le_of_ble_eq_true rfl, Nat.le_of_ble_eq_true rfl⟩).run (fun r_40 hw_40 => ?_)
          refine lv_if_eq (tgt := 153) hx hb dX5_isAct_146 (by decide) (fun c_41 => ?_) (fun c_41 => ?_)
          · -- yes
            have k_41 : ¬ (V6 ca) := two_z hw_40 c_41
            refine lv_iconst (v := 0) hx hb dX5_isAct_153 (by decide) ?_
            exact W.zret (v := 0) (ty := .boolean) hx hb hr rfl (fun t ht hW => ⟨0, rfl, (Or.inr ⟨rfl, fun h9 => by have h8 := (okP_7 hk3).mp h9; omega⟩), ht⟩) (by intro q hq; cases hq) dX5_isAct_154
          · -- no
            have k_41 : V6 ca := two_nz hw_40 c_41
            refine lv_iconst (v := 1) hx hb dX5_isAct_149 (by decide) ?_
            refine lv_goto (tgt := 154) hx hb dX5_isAct_150 (by decide) ?_
            exact W.zret (v := 1) (ty := .boolean) hx hb hr rfl (fun t ht hW => ⟨1, rfl, (Or.inl ⟨rfl, (okP_7 hk3).mpr (by omega)⟩), ht⟩) (by intro q hq; cases hq) dX5_isAct_154
    · refine lv_tableIn (tgt := 187) (off := 186) hx hb dX5_isAct_1 (by omega) (by omega) (by rw [hk3]; rfl) (by decide) ?_
      refine lv_iload_n hx hb dX5_isAct_187 rfl (lv_at hl 1 rfl) ?_
      refine vp_callSi (va_runS (As := [.int aa]) (rest := []) ⟨hx, hb, hml, hown, hts⟩ (c_X5_isName l aa) (va_cwS 1 hts g_X5_isAct_X5_isName_115 rfl rfl rfl (by decide +kernel) ⟨Nat.le_of_ble_eq_true rfl, Nat.le_of_ble_eq_true rfl⟩) ⟨fun _ _ _ _ q => q, fun _ _ _ => ⟨rfl, trivial⟩⟩ rfl rfl hl.1 rfl (lv_room (Nat.le_of_ble_eq_true rfl)) dX5_isAct_188 ⟨Nat.le_of_ble_eq_true rfl, Nat.le_of_ble_eq_true rfl⟩).run (fun r_42 hw_42 => ?_)
      refine lv_if_eq (tgt := 205) hx hb dX5_isAct_191 (by decide) (fun c_43 => ?_) (fun c_43 => ?_)
      · -- yes
        have k_43 : ¬ (V6 aa) := two_z hw_42 c_43
        refine lv_iconst (v := 0) hx hb dX5_isAct_205 (by decide) ?_
        exact W.zret (v := 0) (ty := .boolean) hx hb hr rfl (fun t ht hW => ⟨0, rfl, (Or.inr ⟨rfl, fun h9 => by have h8 := (okP_8 hk3).mp h9; omega⟩), ht⟩) (by intro q hq; cases hq) dX5_isAct_206
      · -- no
        have k_43 : V6 aa := two_nz hw_42 c_43
        refine lv_iload_n hx hb dX5_isAct_194 rfl (lv_at hl 2 rfl) ?_
        refine vp_callSi (va_runS (As := [.int ba]) (rest := []) ⟨hx, hb, hml, hown, hts⟩ (c_X5_isName l ba) (va_cwS 1 hts g_X5_isAct_X5_isName_115 rfl rfl rfl (by decide +kernel) ⟨Nat.le_of_ble_eq_true rfl, Nat.le_of_ble_eq_true rfl⟩) ⟨fun _ _ _ _ q => q, fun _ _ _ => ⟨rfl, trivial⟩⟩ rfl rfl hl.1 rfl (lv_room (Nat.le_of_ble_eq_true rfl)) dX5_isAct_195 ⟨Nat.le_of_ble_eq_true rfl, Nat.le_of_ble_eq_true rfl⟩).run (fun r_44 hw_44 => ?_)
        refine lv_if_eq (tgt := 205) hx hb dX5_isAct_198 (by decide) (fun c_45 => ?_) (fun c_45 => ?_)
        · -- yes
          have k_45 : ¬ (V6 ba) := two_z hw_44 c_45
          refine lv_iconst (v := 0) hx hb dX5_isAct_205 (by decide) ?_
          exact W.zret (v := 0) (ty := .boolean) hx hb hr rfl (fun t ht hW => ⟨0, rfl, (Or.inr ⟨rfl, fun h9 => by have h8 := (okP_8 hk3).mp h9; omega⟩), ht⟩) (by intro q hq; cases hq) dX5_isAct_206
        · -- no
          have k_45 : V6 ba := two_nz hw_44 c_45
          refine lv_iconst (v := 1) hx hb dX5_isAct_201 (by decide) ?_
          refine lv_goto (tgt := 206) hx hb dX5_isAct_202 (by decide) ?_
          exact W.zret (v := 1) (ty := .boolean) hx hb hr rfl (fun t ht hW => ⟨1, rfl, (Or.inl ⟨rfl, (okP_8 hk3).mpr (by omega)⟩), ht⟩) (by intro q hq; cases hq) dX5_isAct_206
    · refine lv_tableIn (tgt := 207) (off := 206) hx hb dX5_isAct_1 (by omega) (by omega) (by rw [hk3]; rfl) (by decide) ?_
      refine lv_iload_n hx hb dX5_isAct_207 rfl (lv_at hl 1 rfl) ?_
      refine vp_callSi (va_runS (As := [.int aa]) (rest := []) ⟨hx, hb, hml, hown, hts⟩ (c_X5_isName l aa) (va_cwS 1 hts g_X5_isAct_X5_isName_115 rfl rfl rfl (by decide +kernel) ⟨Nat.le_of_ble_eq_true rfl, Nat.le_of_ble_eq_true rfl⟩) ⟨fun _ _ _ _ q => q, fun _ _ _ => ⟨rfl, trivial⟩⟩ rfl rfl hl.1 rfl (lv_room (Nat.le_of_ble_eq_true rfl)) dX5_isAct_208 ⟨Nat.le_of_ble_eq_true rfl, Nat.le_of_ble_eq_true rfl⟩).run (fun r_46 hw_46 => ?_)
      refine lv_if_eq (tgt := 240) hx hb dX5_isAct_211 (by decide) (fun c_47 => ?_) (fun c_47 => ?_)
      · -- yes
        have k_47 : ¬ (V6 aa) := two_z hw_46 c_47
        refine lv_iconst (v := 0) hx hb dX5_isAct_240 (by decide) ?_
        exact W.zret (v := 0) (ty := .boolean) hx hb hr rfl (fun t ht hW => ⟨0, rfl, (Or.inr ⟨rfl, fun h9 => by have h8 := (okP_9 hk3).mp h9; omega⟩), ht⟩) (by intro q hq; cases hq) dX5_isAct_241
      · -- no
        have k_47 : V6 aa := two_nz hw_46 c_47
        refine lv_iload_n hx hb dX5_isAct_214 rfl (lv_at hl 2 rfl) ?_
        refine vp_callSi (va_runS (As := [.int ba]) (rest := []) ⟨hx, hb, hml, hown, hts⟩ (c_X5_isLane l ba) (va_cwS 1 hts g_X5_isAct_X5_isLane_122 rfl rfl rfl (by decide +kernel) ⟨Nat.le_of_ble_eq_true rfl, Nat.le_of_ble_eq_true rfl⟩) ⟨fun _ _ _ _ q => q, fun _ _ _ => ⟨rfl, trivial⟩⟩ rfl rfl hl.1 rfl (lv_room (Nat.le_of_ble_eq_true rfl)) dX5_isAct_215 ⟨Nat.le_of_ble_eq_true rfl, Nat.le_of_ble_eq_true rfl⟩).run (fun r_48 hw_48 => ?_)
        refine lv_if_eq (tgt := 240) hx hb dX5_isAct_218 (by decide) (fun c_49 => ?_) (fun c_49 => ?_)
        · -- yes
          have k_49 : ¬ (V3 ba) := two_z hw_48 c_49
          refine lv_iconst (v := 0) hx hb dX5_isAct_240 (by decide) ?_
          exact W.zret (v := 0) (ty := .boolean) hx hb hr rfl (fun t ht hW => ⟨0, rfl, (Or.inr ⟨rfl, fun h9 => by have h8 := (okP_9 hk3).mp h9; omega⟩), ht⟩) (by intro q hq; cases hq) dX5_isAct_241
        · -- no
          have k_49 : V3 ba := two_nz hw_48 c_49
          refine lv_iload_n hx hb dX5_isAct_221 rfl (lv_at hl 3 rfl) ?_
          refine vp_callSi (va_runS (As := [.int ca]) (rest := []) ⟨hx, hb, hml, hown, hts⟩ (c_X5_isName l ca) (va_cwS 1 hts g_X5_isAct_X5_isName_115 rfl rfl rfl (by decide +kernel) ⟨Nat.le_of_ble_eq_true rfl, Nat.le_of_ble_eq_true rfl⟩) ⟨fun _ _ _ _ q => q, fun _ _ _ => ⟨rfl, trivial⟩⟩ rfl rfl hl.1 rfl (lv_room (Nat.le_of_ble_eq_true rfl)) dX5_isAct_222 ⟨Nat.le_of_ble_eq_true rfl, Nat.le_of_ble_eq_true rfl⟩).run (fun r_50 hw_50 => ?_)
          refine lv_if_eq (tgt := 240) hx hb dX5_isAct_225 (by decide) (fun c_51 => ?_) (fun c_51 => ?_)
          · -- yes
            have k_51 : ¬ (V6 ca) := two_z hw_50 c_51
            refine lv_iconst (v := 0) hx hb dX5_isAct_240 (by decide) ?_
            exact W.zret (v := 0) (ty := .boolean) hx hb hr rfl (fun t ht hW => ⟨0, rfl, (Or.inr ⟨rfl, fun h9 => by have h8 := (okP_9 hk3).mp h9; omega⟩), ht⟩) (by intro q hq; cases hq) dX5_isAct_241
          · -- no
            have k_51 : V6 ca := two_nz hw_50 c_51
            refine lv_iload hx hb dX5_isAct_228 (lv_at hl 4 rfl) ?_
            refine vp_callSi (va_runS (As := [.int da]) (rest := []) ⟨hx, hb, hml, hown, hts⟩ (c_X5_isName l da) (va_cwS 1 hts g_X5_isAct_X5_isName_115 rfl rfl rfl (by decide +kernel) ⟨Nat.le_of_ble_eq_true rfl, Nat.le_of_ble_eq_true rfl⟩) ⟨fun _ _ _ _ q => q, fun _ _ _ => ⟨rfl, trivial⟩⟩ rfl rfl hl.1 rfl (lv_room (Nat.le_of_ble_eq_true rfl)) dX5_isAct_230 ⟨Nat.le_of_ble_eq_true rfl, Nat.le_of_ble_eq_true rfl⟩).run (fun r_52 hw_52 => ?_)
            refine lv_if_eq (tgt := 240) hx hb dX5_isAct_233 (by decide) (fun c_53 => ?_) (fun c_53 => ?_)
            · -- yes
              have k_53 : ¬ (V6 da) := two_z hw_52 c_53
              refine lv_iconst (v := 0) hx hb dX5_isAct_240 (by decide) ?_
              exact W.zret (v := 0) (ty := .boolean) hx hb hr rfl (fun t ht hW => ⟨0, rfl, (Or.inr ⟨rfl, fun h9 => by have h8 := (okP_9 hk3).mp h9; omega⟩), ht⟩) (by intro q hq; cases hq) dX5_isAct_241
            · -- no
              have k_53 : V6 da := two_nz hw_52 c_53
              refine lv_iconst (v := 1) hx hb dX5_isAct_236 (by decide) ?_
              refine lv_goto (tgt := 241) hx hb dX5_isAct_237 (by decide) ?_
              exact W.zret (v := 1) (ty := .boolean) hx hb hr rfl (fun t ht hW => ⟨1, rfl, (Or.inl ⟨rfl, (okP_9 hk3).mpr (by omega)⟩), ht⟩) (by intro q hq; cases hq) dX5_isAct_241
    · refine lv_tableIn (tgt := 242) (off := 241) hx hb dX5_isAct_1 (by omega) (by omega) (by rw [hk3]; rfl) (by decide) ?_
      refine lv_iload_n hx hb dX5_isAct_242 rfl (lv_at hl 1 rfl) ?_
      refine vp_callSi (va_runS (As := [.int aa]) (rest := []) ⟨hx, hb, hml, hown, hts⟩ (c_X5_isName l aa) (va_cwS 1 hts g_X5_isAct_X5_isName_115 rfl rfl rfl (by decide +kernel) ⟨Nat.le_of_ble_eq_true rfl, Nat.le_of_ble_eq_true rfl⟩) ⟨fun _ _ _ _ q => q, fun _ _ _ => ⟨rfl, trivial⟩⟩ rfl rfl hl.1 rfl (lv_room (Nat.le_of_ble_eq_true rfl)) dX5_isAct_243 ⟨Nat.le_of_ble_eq_true rfl, Nat.le_of_ble_eq_true rfl⟩).run (fun r_54 hw_54 => ?_)
      refine lv_if_eq (tgt := 275) hx hb dX5_isAct_246 (by decide) (fun c_55 => ?_) (fun c_55 => ?_)
      · -- yes
        have k_55 : ¬ (V6 aa) := two_z hw_54 c_55
        refine lv_iconst (v := 0) hx hb dX5_isAct_275 (by decide) ?_
        exact W.zret (v := 0) (ty := .boolean) hx hb hr rfl (fun t ht hW => ⟨0, rfl, (Or.inr ⟨rfl, fun h9 => by have h8 := (okP_10 hk3).mp h9; omega⟩), ht⟩) (by intro q hq; cases hq) dX5_isAct_276
      · -- no
        have k_55 : V6 aa := two_nz hw_54 c_55
        refine lv_iload_n hx hb dX5_isAct_249 rfl (lv_at hl 2 rfl) ?_
        refine vp_callSi (va_runS (As := [.int ba]) (rest := []) ⟨hx, hb, hml, hown, hts⟩ (c_X5_isName l ba) (va_cwS 1 hts g_X5_isAct_X5_isName_115 rfl rfl rfl (by decide +kernel) ⟨Nat.le_of_ble_eq_true rfl, Nat.le_of_ble_eq_true rfl⟩) ⟨fun _ _ _ _ q => q, fun _ _ _ => ⟨rfl, trivial⟩⟩ rfl rfl hl.1 rfl (lv_room (Nat.le_of_ble_eq_true rfl)) dX5_isAct_250 ⟨Nat.le_of_ble_eq_true rfl, Nat.le_of_ble_eq_true rfl⟩).run (fun r_56 hw_56 => ?_)
        refine lv_if_eq (tgt := 275) hx hb dX5_isAct_253 (by decide) (fun c_57 => ?_) (fun c_57 => ?_)
        · -- yes
          have k_57 : ¬ (V6 ba) := two_z hw_56 c_57
          refine lv_iconst (v := 0) hx hb dX5_isAct_275 (by decide) ?_
          exact W.zret (v := 0) (ty := .boolean) hx hb hr rfl (fun t ht hW => ⟨0, rfl, (Or.inr ⟨rfl, fun h9 => by have h8 := (okP_10 hk3).mp h9; omega⟩), ht⟩) (by intro q hq; cases hq) dX5_isAct_276
        · -- no
          have k_57 : V6 ba := two_nz hw_56 c_57
          refine lv_iload_n hx hb dX5_isAct_256 rfl (lv_at hl 3 rfl) ?_
          refine vp_callSi (va_runS (As := [.int ca]) (rest := []) ⟨hx, hb, hml, hown, hts⟩ (c_X5_isLane l ca) (va_cwS 1 hts g_X5_isAct_X5_isLane_122 rfl rfl rfl (by decide +kernel) ⟨Nat.le_of_ble_eq_true rfl, Nat.le_of_ble_eq_true rfl⟩) ⟨fun _ _ _ _ q => q, fun _ _ _ => ⟨rfl, trivial⟩⟩ rfl rfl hl.1 rfl (lv_room (Nat.le_of_ble_eq_true rfl)) dX5_isAct_257 ⟨Nat.le_of_ble_eq_true rfl, Nat.le_of_ble_eq_true rfl⟩).run (fun r_58 hw_58 => ?_)
          refine lv_if_eq (tgt := 275) hx hb dX5_isAct_260 (by decide) (fun c_59 => ?_) (fun c_59 => ?_)
          · -- yes
            have k_59 : ¬ (V3 ca) := two_z hw_58 c_59
            refine lv_iconst (v := 0) hx hb dX5_isAct_275 (by decide) ?_
            exact W.zret (v := 0) (ty := .boolean) hx hb hr rfl (fun t ht hW => ⟨0, rfl, (Or.inr ⟨rfl, fun h9 => by have h8 := (okP_10 hk3).mp h9; omega⟩), ht⟩) (by intro q hq; cases hq) dX5_isAct_276
          · -- no
            have k_59 : V3 ca := two_nz hw_58 c_59
            refine lv_iload hx hb dX5_isAct_263 (lv_at hl 4 rfl) ?_
            refine vp_callSi (va_runS (As := [.int da]) (rest := []) ⟨hx, hb, hml, hown, hts⟩ (c_X5_isName l da) (va_cwS 1 hts g_X5_isAct_X5_isName_115 rfl rfl rfl (by decide +kernel) ⟨Nat.le_of_ble_eq_true rfl, Nat.le_of_ble_eq_true rfl⟩) ⟨fun _ _ _ _ q => q, fun _ _ _ => ⟨rfl, trivial⟩⟩ rfl rfl hl.1 rfl (lv_room (Nat.le_of_ble_eq_true rfl)) dX5_isAct_265 ⟨Nat.le_of_ble_eq_true rfl, Nat.le_of_ble_eq_true rfl⟩).run (fun r_60 hw_60 => ?_)
            refine lv_if_eq (tgt := 275) hx hb dX5_isAct_268 (by decide) (fun c_61 => ?_) (fun c_61 => ?_)
            · -- yes
              have k_61 : ¬ (V6 da) := two_z hw_60 c_61
              refine lv_iconst (v := 0) hx hb dX5_isAct_275 (by decide) ?_
              exact W.zret (v := 0) (ty := .boolean) hx hb hr rfl (fun t ht hW => ⟨0, rfl, (Or.inr ⟨rfl, fun h9 => by have h8 := (okP_10 hk3).mp h9; omega⟩), ht⟩) (by intro q hq; cases hq) dX5_isAct_276
            · -- no
              have k_61 : V6 da := two_nz hw_60 c_61
              refine lv_iconst (v := 1) hx hb dX5_isAct_271 (by decide) ?_
              refine lv_goto (tgt := 276) hx hb dX5_isAct_272 (by decide) ?_
              exact W.zret (v := 1) (ty := .boolean) hx hb hr rfl (fun t ht hW => ⟨1, rfl, (Or.inl ⟨rfl, (okP_10 hk3).mpr (by omega)⟩), ht⟩) (by intro q hq; cases hq) dX5_isAct_276
    · refine lv_tableIn (tgt := 277) (off := 276) hx hb dX5_isAct_1 (by omega) (by omega) (by rw [hk3]; rfl) (by decide) ?_
      refine lv_iload_n hx hb dX5_isAct_277 rfl (lv_at hl 1 rfl) ?_
      refine vp_callSi (va_runS (As := [.int aa]) (rest := []) ⟨hx, hb, hml, hown, hts⟩ (c_X5_isName l aa) (va_cwS 1 hts g_X5_isAct_X5_isName_115 rfl rfl rfl (by decide +kernel) ⟨Nat.le_of_ble_eq_true rfl, Nat.le_of_ble_eq_true rfl⟩) ⟨fun _ _ _ _ q => q, fun _ _ _ => ⟨rfl, trivial⟩⟩ rfl rfl hl.1 rfl (lv_room (Nat.le_of_ble_eq_true rfl)) dX5_isAct_278 ⟨Nat.le_of_ble_eq_true rfl, Nat.le_of_ble_eq_true rfl⟩).run (fun r_62 hw_62 => ?_)
      refine lv_if_eq (tgt := 318) hx hb dX5_isAct_281 (by decide) (fun c_63 => ?_) (fun c_63 => ?_)
      · -- yes
        have k_63 : ¬ (V6 aa) := two_z hw_62 c_63
        refine lv_iconst (v := 0) hx hb dX5_isAct_318 (by decide) ?_
        exact W.zret (v := 0) (ty := .boolean) hx hb hr rfl (fun t ht hW => ⟨0, rfl, (Or.inr ⟨rfl, fun h9 => by have h8 := (okP_11 hk3).mp h9; omega⟩), ht⟩) (by intro q hq; cases hq) dX5_isAct_319
      · -- no
        have k_63 : V6 aa := two_nz hw_62 c_63
        refine lv_iload_n hx hb dX5_isAct_284 rfl (lv_at hl 2 rfl) ?_
        refine vp_callSi (va_runS (As := [.int ba]) (rest := []) ⟨hx, hb, hml, hown, hts⟩ (c_X5_isName l ba) (va_cwS 1 hts g_X5_isAct_X5_isName_115 rfl rfl rfl (by decide +kernel) ⟨Nat.le_of_ble_eq_true rfl, Nat.le_of_ble_eq_true rfl⟩) ⟨fun _ _ _ _ q => q, fun _ _ _ => ⟨rfl, trivial⟩⟩ rfl rfl hl.1 rfl (lv_room (Nat.le_of_ble_eq_true rfl)) dX5_isAct_285 ⟨Nat.le_of_ble_eq_true rfl, Nat.le_of_ble_eq_true rfl⟩).run (fun r_64 hw_64 => ?_)
        refine lv_if_eq (tgt := 318) hx hb dX5_isAct_288 (by decide) (fun c_65 => ?_) (fun c_65 => ?_)
        · -- yes
          have k_65 : ¬ (V6 ba) := two_z hw_64 c_65
          refine lv_iconst (v := 0) hx hb dX5_isAct_318 (by decide) ?_
          exact W.zret (v := 0) (ty := .boolean) hx hb hr rfl (fun t ht hW => ⟨0, rfl, (Or.inr ⟨rfl, fun h9 => by have h8 := (okP_11 hk3).mp h9; omega⟩), ht⟩) (by intro q hq; cases hq) dX5_isAct_319
        · -- no
          have k_65 : V6 ba := two_nz hw_64 c_65
          refine lv_iload_n hx hb dX5_isAct_291 rfl (lv_at hl 3 rfl) ?_
          refine vp_callSi (va_runS (As := [.int ca]) (rest := []) ⟨hx, hb, hml, hown, hts⟩ (c_X5_isName l ca) (va_cwS 1 hts g_X5_isAct_X5_isName_115 rfl rfl rfl (by decide +kernel) ⟨Nat.le_of_ble_eq_true rfl, Nat.le_of_ble_eq_true rfl⟩) ⟨fun _ _ _ _ q => q, fun _ _ _ => ⟨rfl, trivial⟩⟩ rfl rfl hl.1 rfl (lv_room (Nat.le_of_ble_eq_true rfl)) dX5_isAct_292 ⟨Nat.le_of_ble_eq_true rfl, Nat.le_of_ble_eq_true rfl⟩).run (fun r_66 hw_66 => ?_)
          refine lv_if_eq (tgt := 318) hx hb dX5_isAct_295 (by decide) (fun c_67 => ?_) (fun c_67 => ?_)
          · -- yes
            have k_67 : ¬ (V6 ca) := two_z hw_66 c_67
            refine lv_iconst (v := 0) hx hb dX5_isAct_318 (by decide) ?_
            exact W.zret (v := 0) (ty := .boolean) hx hb hr rfl (fun t ht hW => ⟨0, rfl, (Or.inr ⟨rfl, fun h9 => by have h8 := (okP_11 hk3).mp h9; omega⟩), ht⟩) (by intro q hq; cases hq) dX5_isAct_319
          · -- no
            have k_67 : V6 ca := two_nz hw_66 c_67
            refine lv_iload hx hb dX5_isAct_298 (lv_at hl 4 rfl) ?_
            refine vp_callSi (va_runS (As := [.int da]) (rest := []) ⟨hx, hb, hml, hown, hts⟩ (c_X5_isName l da) (va_cwS 1 hts g_X5_isAct_X5_isName_115 rfl rfl rfl (by decide +kernel) ⟨Nat.le_of_ble_eq_true rfl, Nat.le_of_ble_eq_true rfl⟩) ⟨fun _ _ _ _ q => q, fun _ _ _ => ⟨rfl, trivial⟩⟩ rfl rfl hl.1 rfl (lv_room (Nat.le_of_ble_eq_true rfl)) dX5_isAct_300 ⟨Nat.le_of_ble_eq_true rfl, Nat.le_of_ble_eq_true rfl⟩).run (fun r_68 hw_68 => ?_)
            refine lv_if_eq (tgt := 318) hx hb dX5_isAct_303 (by decide) (fun c_69 => ?_) (fun c_69 => ?_)
            · -- yes
              have k_69 : ¬ (V6 da) := two_z hw_68 c_69
              refine lv_iconst (v := 0) hx hb dX5_isAct_318 (by decide) ?_
              exact W.zret (v := 0) (ty := .boolean) hx hb hr rfl (fun t ht hW => ⟨0, rfl, (Or.inr ⟨rfl, fun h9 => by have h8 := (okP_11 hk3).mp h9; omega⟩), ht⟩) (by intro q hq; cases hq) dX5_isAct_319
            · -- no
              have k_69 : V6 da := two_nz hw_68 c_69
              refine lv_iload hx hb dX5_isAct_306 (lv_at hl 5 rfl) ?_
              refine vp_callSi (va_runS (As := [.int ea]) (rest := []) ⟨hx, hb, hml, hown, hts⟩ (c_X5_isName l ea) (va_cwS 1 hts g_X5_isAct_X5_isName_115 rfl rfl rfl (by decide +kernel) ⟨Nat.le_of_ble_eq_true rfl, Nat.le_of_ble_eq_true rfl⟩) ⟨fun _ _ _ _ q => q, fun _ _ _ => ⟨rfl, trivial⟩⟩ rfl rfl hl.1 rfl (lv_room (Nat.le_of_ble_eq_true rfl)) dX5_isAct_308 ⟨Nat.le_of_ble_eq_true rfl, Nat.le_of_ble_eq_true rfl⟩).run (fun r_70 hw_70 => ?_)
              refine lv_if_eq (tgt := 318) hx hb dX5_isAct_311 (by decide) (fun c_71 => ?_) (fun c_71 => ?_)
              · -- yes
                have k_71 : ¬ (V6 ea) := two_z hw_70 c_71
                refine lv_iconst (v := 0) hx hb dX5_isAct_318 (by decide) ?_
                exact W.zret (v := 0) (ty := .boolean) hx hb hr rfl (fun t ht hW => ⟨0, rfl, (Or.inr ⟨rfl, fun h9 => by have h8 := (okP_11 hk3).mp h9; omega⟩), ht⟩) (by intro q hq; cases hq) dX5_isAct_319
              · -- no
                have k_71 : V6 ea := two_nz hw_70 c_71
                refine lv_iconst (v := 1) hx hb dX5_isAct_314 (by decide) ?_
                refine lv_goto (tgt := 319) hx hb dX5_isAct_315 (by decide) ?_
                exact W.zret (v := 1) (ty := .boolean) hx hb hr rfl (fun t ht hW => ⟨1, rfl, (Or.inl ⟨rfl, (okP_11 hk3).mpr (by omega)⟩), ht⟩) (by intro q hq; cases hq) dX5_isAct_319
    · refine lv_tableIn (tgt := 320) (off := 319) hx hb dX5_isAct_1 (by omega) (by omega) (by rw [hk3]; rfl) (by decide) ?_
      refine lv_iload_n hx hb dX5_isAct_320 rfl (lv_at hl 1 rfl) ?_
      refine vp_callSi (va_runS (As := [.int aa]) (rest := []) ⟨hx, hb, hml, hown, hts⟩ (c_X5_isName l aa) (va_cwS 1 hts g_X5_isAct_X5_isName_115 rfl rfl rfl (by decide +kernel) ⟨Nat.le_of_ble_eq_true rfl, Nat.le_of_ble_eq_true rfl⟩) ⟨fun _ _ _ _ q => q, fun _ _ _ => ⟨rfl, trivial⟩⟩ rfl rfl hl.1 rfl (lv_room (Nat.le_of_ble_eq_true rfl)) dX5_isAct_321 ⟨Nat.le_of_ble_eq_true rfl, Nat.le_of_ble_eq_true rfl⟩).run (fun r_72 hw_72 => ?_)
      refine lv_if_eq (tgt := 361) hx hb dX5_isAct_324 (by decide) (fun c_73 => ?_) (fun c_73 => ?_)
      · -- yes
        have k_73 : ¬ (V6 aa) := two_z hw_72 c_73
        refine lv_iconst (v := 0) hx hb dX5_isAct_361 (by decide) ?_
        exact W.zret (v := 0) (ty := .boolean) hx hb hr rfl (fun t ht hW => ⟨0, rfl, (Or.inr ⟨rfl, fun h9 => by have h8 := (okP_12 hk3).mp h9; omega⟩), ht⟩) (by intro q hq; cases hq) dX5_isAct_362
      · -- no
        have k_73 : V6 aa := two_nz hw_72 c_73
        refine lv_iload_n hx hb dX5_isAct_327 rfl (lv_at hl 2 rfl) ?_
        refine vp_callSi (va_runS (As := [.int ba]) (rest := []) ⟨hx, hb, hml, hown, hts⟩ (c_X5_isLane l ba) (va_cwS 1 hts g_X5_isAct_X5_isLane_122 rfl rfl rfl (by decide +kernel) ⟨Nat.le_of_ble_eq_true rfl, Nat.le_of_ble_eq_true rfl⟩) ⟨fun _ _ _ _ q => q, fun _ _ _ => ⟨rfl, trivial⟩⟩ rfl rfl hl.1 rfl (lv_room (Nat.le_of_ble_eq_true rfl)) dX5_isAct_328 ⟨Nat.le_of_ble_eq_true rfl, Nat.le_of_ble_eq_true rfl⟩).run (fun r_74 hw_74 => ?_)
        refine lv_if_eq (tgt := 361) hx hb dX5_isAct_331 (by decide) (fun c_75 => ?_) (fun c_75 => ?_)
        · -- yes
          have k_75 : ¬ (V3 ba) := two_z hw_74 c_75
          refine lv_iconst (v := 0) hx hb dX5_isAct_361 (by decide) ?_
          exact W.zret (v := 0) (ty := .boolean) hx hb hr rfl (fun t ht hW => ⟨0, rfl, (Or.inr ⟨rfl, fun h9 => by have h8 := (okP_12 hk3).mp h9; omega⟩), ht⟩) (by intro q hq; cases hq) dX5_isAct_362
        · -- no
          have k_75 : V3 ba := two_nz hw_74 c_75
          refine lv_iload_n hx hb dX5_isAct_334 rfl (lv_at hl 3 rfl) ?_
          refine vp_callSi (va_runS (As := [.int ca]) (rest := []) ⟨hx, hb, hml, hown, hts⟩ (c_X5_isName l ca) (va_cwS 1 hts g_X5_isAct_X5_isName_115 rfl rfl rfl (by decide +kernel) ⟨Nat.le_of_ble_eq_true rfl, Nat.le_of_ble_eq_true rfl⟩) ⟨fun _ _ _ _ q => q, fun _ _ _ => ⟨rfl, trivial⟩⟩ rfl rfl hl.1 rfl (lv_room (Nat.le_of_ble_eq_true rfl)) dX5_isAct_335 ⟨Nat.le_of_ble_eq_true rfl, Nat.le_of_ble_eq_true rfl⟩).run (fun r_76 hw_76 => ?_)
          refine lv_if_eq (tgt := 361) hx hb dX5_isAct_338 (by decide) (fun c_77 => ?_) (fun c_77 => ?_)
          · -- yes
            have k_77 : ¬ (V6 ca) := two_z hw_76 c_77
            refine lv_iconst (v := 0) hx hb dX5_isAct_361 (by decide) ?_
            exact W.zret (v := 0) (ty := .boolean) hx hb hr rfl (fun t ht hW => ⟨0, rfl, (Or.inr ⟨rfl, fun h9 => by have h8 := (okP_12 hk3).mp h9; omega⟩), ht⟩) (by intro q hq; cases hq) dX5_isAct_362
          · -- no
            have k_77 : V6 ca := two_nz hw_76 c_77
            refine lv_iload hx hb dX5_isAct_341 (lv_at hl 4 rfl) ?_
            refine vp_callSi (va_runS (As := [.int da]) (rest := []) ⟨hx, hb, hml, hown, hts⟩ (c_X5_isName l da) (va_cwS 1 hts g_X5_isAct_X5_isName_115 rfl rfl rfl (by decide +kernel) ⟨Nat.le_of_ble_eq_true rfl, Nat.le_of_ble_eq_true rfl⟩) ⟨fun _ _ _ _ q => q, fun _ _ _ => ⟨rfl, trivial⟩⟩ rfl rfl hl.1 rfl (lv_room (Nat.le_of_ble_eq_true rfl)) dX5_isAct_343 ⟨Nat.le_of_ble_eq_true rfl, Nat.le_of_ble_eq_true rfl⟩).run (fun r_78 hw_78 => ?_)
            refine lv_if_eq (tgt := 361) hx hb dX5_isAct_346 (by decide) (fun c_79 => ?_) (fun c_79 => ?_)
            · -- yes
              have k_79 : ¬ (V6 da) := two_z hw_78 c_79
              refine lv_iconst (v := 0) hx hb dX5_isAct_361 (by decide) ?_
              exact W.zret (v := 0) (ty := .boolean) hx hb hr rfl (fun t ht hW => ⟨0, rfl, (Or.inr ⟨rfl, fun h9 => by have h8 := (okP_12 hk3).mp h9; omega⟩), ht⟩) (by intro q hq; cases hq) dX5_isAct_362
            · -- no
              have k_79 : V6 da := two_nz hw_78 c_79
              refine lv_iload hx hb dX5_isAct_349 (lv_at hl 5 rfl) ?_
              refine vp_callSi (va_runS (As := [.int ea]) (rest := []) ⟨hx, hb, hml, hown, hts⟩ (c_X5_isName l ea) (va_cwS 1 hts g_X5_isAct_X5_isName_115 rfl rfl rfl (by decide +kernel) ⟨Nat.le_of_ble_eq_true rfl, Nat.le_of_ble_eq_true rfl⟩) ⟨fun _ _ _ _ q => q, fun _ _ _ => ⟨rfl, trivial⟩⟩ rfl rfl hl.1 rfl (lv_room (Nat.le_of_ble_eq_true rfl)) dX5_isAct_351 ⟨Nat.le_of_ble_eq_true rfl, Nat.le_of_ble_eq_true rfl⟩).run (fun r_80 hw_80 => ?_)
              refine lv_if_eq (tgt := 361) hx hb dX5_isAct_354 (by decide) (fun c_81 => ?_) (fun c_81 => ?_)
              · -- yes
                have k_81 : ¬ (V6 ea) := two_z hw_80 c_81
                refine lv_iconst (v := 0) hx hb dX5_isAct_361 (by decide) ?_
                exact W.zret (v := 0) (ty := .boolean) hx hb hr rfl (fun t ht hW => ⟨0, rfl, (Or.inr ⟨rfl, fun h9 => by have h8 := (okP_12 hk3).mp h9; omega⟩), ht⟩) (by intro q hq; cases hq) dX5_isAct_362
              · -- no
                have k_81 : V6 ea := two_nz hw_80 c_81
                refine lv_iconst (v := 1) hx hb dX5_isAct_357 (by decide) ?_
                refine lv_goto (tgt := 362) hx hb dX5_isAct_358 (by decide) ?_
                exact W.zret (v := 1) (ty := .boolean) hx hb hr rfl (fun t ht hW => ⟨1, rfl, (Or.inl ⟨rfl, (okP_12 hk3).mpr (by omega)⟩), ht⟩) (by intro q hq; cases hq) dX5_isAct_362
    · refine lv_tableIn (tgt := 187) (off := 186) hx hb dX5_isAct_1 (by omega) (by omega) (by rw [hk3]; rfl) (by decide) ?_
      refine lv_iload_n hx hb dX5_isAct_187 rfl (lv_at hl 1 rfl) ?_
      refine vp_callSi (va_runS (As := [.int aa]) (rest := []) ⟨hx, hb, hml, hown, hts⟩ (c_X5_isName l aa) (va_cwS 1 hts g_X5_isAct_X5_isName_115 rfl rfl rfl (by decide +kernel) ⟨Nat.le_of_ble_eq_true rfl, Nat.le_of_ble_eq_true rfl⟩) ⟨fun _ _ _ _ q => q, fun _ _ _ => ⟨rfl, trivial⟩⟩ rfl rfl hl.1 rfl (lv_room (Nat.le_of_ble_eq_true rfl)) dX5_isAct_188 ⟨Nat.le_of_ble_eq_true rfl, Nat.le_of_ble_eq_true rfl⟩).run (fun r_82 hw_82 => ?_)
      refine lv_if_eq (tgt := 205) hx hb dX5_isAct_191 (by decide) (fun c_83 => ?_) (fun c_83 => ?_)
      · -- yes
        have k_83 : ¬ (V6 aa) := two_z hw_82 c_83
        refine lv_iconst (v := 0) hx hb dX5_isAct_205 (by decide) ?_
        exact W.zret (v := 0) (ty := .boolean) hx hb hr rfl (fun t ht hW => ⟨0, rfl, (Or.inr ⟨rfl, fun h9 => by have h8 := (okP_13 hk3).mp h9; omega⟩), ht⟩) (by intro q hq; cases hq) dX5_isAct_206
      · -- no
        have k_83 : V6 aa := two_nz hw_82 c_83
        refine lv_iload_n hx hb dX5_isAct_194 rfl (lv_at hl 2 rfl) ?_
        refine vp_callSi (va_runS (As := [.int ba]) (rest := []) ⟨hx, hb, hml, hown, hts⟩ (c_X5_isName l ba) (va_cwS 1 hts g_X5_isAct_X5_isName_115 rfl rfl rfl (by decide +kernel) ⟨Nat.le_of_ble_eq_true rfl, Nat.le_of_ble_eq_true rfl⟩) ⟨fun _ _ _ _ q => q, fun _ _ _ => ⟨rfl, trivial⟩⟩ rfl rfl hl.1 rfl (lv_room (Nat.le_of_ble_eq_true rfl)) dX5_isAct_195 ⟨Nat.le_of_ble_eq_true rfl, Nat.le_of_ble_eq_true rfl⟩).run (fun r_84 hw_84 => ?_)
        refine lv_if_eq (tgt := 205) hx hb dX5_isAct_198 (by decide) (fun c_85 => ?_) (fun c_85 => ?_)
        · -- yes
          have k_85 : ¬ (V6 ba) := two_z hw_84 c_85
          refine lv_iconst (v := 0) hx hb dX5_isAct_205 (by decide) ?_
          exact W.zret (v := 0) (ty := .boolean) hx hb hr rfl (fun t ht hW => ⟨0, rfl, (Or.inr ⟨rfl, fun h9 => by have h8 := (okP_13 hk3).mp h9; omega⟩), ht⟩) (by intro q hq; cases hq) dX5_isAct_206
        · -- no
          have k_85 : V6 ba := two_nz hw_84 c_85
          refine lv_iconst (v := 1) hx hb dX5_isAct_201 (by decide) ?_
          refine lv_goto (tgt := 206) hx hb dX5_isAct_202 (by decide) ?_
          exact W.zret (v := 1) (ty := .boolean) hx hb hr rfl (fun t ht hW => ⟨1, rfl, (Or.inl ⟨rfl, (okP_13 hk3).mpr (by omega)⟩), ht⟩) (by intro q hq; cases hq) dX5_isAct_206
    · refine lv_tableIn (tgt := 363) (off := 362) hx hb dX5_isAct_1 (by omega) (by omega) (by rw [hk3]; rfl) (by decide) ?_
      refine lv_iload_n hx hb dX5_isAct_363 rfl (lv_at hl 2 rfl) ?_
      refine lv_iconst (v := 1) hx hb dX5_isAct_364 (by decide) ?_
      refine lv_icmp_lt (tgt := 378) hx hb dX5_isAct_365 (by decide) (fun c_86 => ?_) (fun c_86 => ?_)
      · -- yes
        have k_86 : (ba.toInt : Int) < (1 : Int) := by first | exact lt_i c_86 | simpa using lt_i c_86
        refine lv_iconst (v := 0) hx hb dX5_isAct_378 (by decide) ?_
        exact W.zret (v := 0) (ty := .boolean) hx hb hr rfl (fun t ht hW => ⟨0, rfl, (Or.inr ⟨rfl, fun h9 => by have h8 := (okP_14 hk3).mp h9; omega⟩), ht⟩) (by intro q hq; cases hq) dX5_isAct_379
      · -- no
        have k_86 : (1 : Int) ≤ (ba.toInt : Int) := by first | exact nlt_i c_86 | simpa using nlt_i c_86
        refine lv_iload_n hx hb dX5_isAct_368 rfl (lv_at hl 2 rfl) ?_
        refine lv_bipush (v := 10) hx hb dX5_isAct_369 (by decide) ?_
        refine lv_icmp_gt (tgt := 378) hx hb dX5_isAct_371 (by decide) (fun c_87 => ?_) (fun c_87 => ?_)
        · -- yes
          have k_87 : (10 : Int) < (ba.toInt : Int) := by first | exact lt_i c_87 | simpa using lt_i c_87
          refine lv_iconst (v := 0) hx hb dX5_isAct_378 (by decide) ?_
          exact W.zret (v := 0) (ty := .boolean) hx hb hr rfl (fun t ht hW => ⟨0, rfl, (Or.inr ⟨rfl, fun h9 => by have h8 := (okP_14 hk3).mp h9; omega⟩), ht⟩) (by intro q hq; cases hq) dX5_isAct_379
        · -- no
          have k_87 : (ba.toInt : Int) ≤ (10 : Int) := by first | exact nlt_i c_87 | simpa using nlt_i c_87
          refine lv_iconst (v := 1) hx hb dX5_isAct_374 (by decide) ?_
          refine lv_goto (tgt := 379) hx hb dX5_isAct_375 (by decide) ?_
          exact W.zret (v := 1) (ty := .boolean) hx hb hr rfl (fun t ht hW => ⟨1, rfl, (Or.inl ⟨rfl, (okP_14 hk3).mpr (by omega)⟩), ht⟩) (by intro q hq; cases hq) dX5_isAct_379
end
