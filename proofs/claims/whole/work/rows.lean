section
-- ===== PART A: goes FIRST, ahead of the names: the tables' words, and 'selects' of the private methods out of them =====
/-- a private method of a class that the tables say can be made, by its rows of tables_1 -/
def lw_okq (q : MethodName × Nat) : Prop := (q.1.cls ≠ "java/lang/invoke/MethodHandle" ∧ q.1.cls ≠ "java/lang/invoke/VarHandle") ∧ Cond.instantiable q.1.cls q.2 ∈ tables_1 ∧ Cond.privateMethod q.1 ∈ tables_1 ∧ Cond.instanceMethod q.1 ∈ tables_1
theorem lw_p0 : lw_okq (⟨"RouteGuide", "findIntoSpare", "()Z"⟩, 10) := ⟨⟨by decide +kernel, by decide +kernel⟩, List.mem_of_getElem? (i := 17) (by decide +kernel), List.mem_of_getElem? (i := 292) (by decide +kernel), List.mem_of_getElem? (i := 293) (by decide +kernel)⟩
theorem lw_p1 : lw_okq (⟨"RouteGuide$WayFinder", "measureBackwards", "()V"⟩, 12) := ⟨⟨by decide +kernel, by decide +kernel⟩, List.mem_of_getElem? (i := 80) (by decide +kernel), List.mem_of_getElem? (i := 345) (by decide +kernel), List.mem_of_getElem? (i := 346) (by decide +kernel)⟩
theorem lw_p2 : lw_okq (⟨"RouteGuide$WayFinder", "levels", "()I"⟩, 12) := ⟨⟨by decide +kernel, by decide +kernel⟩, List.mem_of_getElem? (i := 80) (by decide +kernel), List.mem_of_getElem? (i := 349) (by decide +kernel), List.mem_of_getElem? (i := 350) (by decide +kernel)⟩
theorem lw_p3 : lw_okq (⟨"RouteGuide$Frontier", "rise", "(I)V"⟩, 4) := ⟨⟨by decide +kernel, by decide +kernel⟩, List.mem_of_getElem? (i := 86) (by decide +kernel), List.mem_of_getElem? (i := 363) (by decide +kernel), List.mem_of_getElem? (i := 364) (by decide +kernel)⟩
theorem lw_p4 : lw_okq (⟨"RouteGuide$Frontier", "sinkFromTop", "(I)V"⟩, 4) := ⟨⟨by decide +kernel, by decide +kernel⟩, List.mem_of_getElem? (i := 86) (by decide +kernel), List.mem_of_getElem? (i := 371) (by decide +kernel), List.mem_of_getElem? (i := 372) (by decide +kernel)⟩
theorem lw_p5 : lw_okq (⟨"RouteGuide$WayFinder", "startState", "()I"⟩, 12) := ⟨⟨by decide +kernel, by decide +kernel⟩, List.mem_of_getElem? (i := 80) (by decide +kernel), List.mem_of_getElem? (i := 375) (by decide +kernel), List.mem_of_getElem? (i := 376) (by decide +kernel)⟩
theorem lw_p6 : lw_okq (⟨"RouteGuide$WayFinder", "spreadBackwards", "(IIJ)V"⟩, 12) := ⟨⟨by decide +kernel, by decide +kernel⟩, List.mem_of_getElem? (i := 80) (by decide +kernel), List.mem_of_getElem? (i := 383) (by decide +kernel), List.mem_of_getElem? (i := 384) (by decide +kernel)⟩
theorem lw_p7 : lw_okq (⟨"RouteGuide$WayFinder", "mayFollow", "(II)Z"⟩, 12) := ⟨⟨by decide +kernel, by decide +kernel⟩, List.mem_of_getElem? (i := 80) (by decide +kernel), List.mem_of_getElem? (i := 387) (by decide +kernel), List.mem_of_getElem? (i := 388) (by decide +kernel)⟩
theorem lw_p8 : lw_okq (⟨"RouteGuide$WayFinder", "follow", "(LRouteGuide$Way;J)V"⟩, 12) := ⟨⟨by decide +kernel, by decide +kernel⟩, List.mem_of_getElem? (i := 80) (by decide +kernel), List.mem_of_getElem? (i := 394) (by decide +kernel), List.mem_of_getElem? (i := 395) (by decide +kernel)⟩
theorem lw_p9 : lw_okq (⟨"RouteGuide$WayFinder", "holdStart", "()V"⟩, 12) := ⟨⟨by decide +kernel, by decide +kernel⟩, List.mem_of_getElem? (i := 80) (by decide +kernel), List.mem_of_getElem? (i := 398) (by decide +kernel), List.mem_of_getElem? (i := 399) (by decide +kernel)⟩
theorem lw_p10 : lw_okq (⟨"RouteGuide$WayFinder", "charge", "(I)V"⟩, 12) := ⟨⟨by decide +kernel, by decide +kernel⟩, List.mem_of_getElem? (i := 80) (by decide +kernel), List.mem_of_getElem? (i := 402) (by decide +kernel), List.mem_of_getElem? (i := 403) (by decide +kernel)⟩
theorem lw_p11 : lw_okq (⟨"RouteGuide$WayFinder", "leastNext", "(IJ)I"⟩, 12) := ⟨⟨by decide +kernel, by decide +kernel⟩, List.mem_of_getElem? (i := 80) (by decide +kernel), List.mem_of_getElem? (i := 409) (by decide +kernel), List.mem_of_getElem? (i := 410) (by decide +kernel)⟩
theorem lw_p12 : lw_okq (⟨"RouteGuide$WayFinder", "meets", "(IJ)Z"⟩, 12) := ⟨⟨by decide +kernel, by decide +kernel⟩, List.mem_of_getElem? (i := 80) (by decide +kernel), List.mem_of_getElem? (i := 413) (by decide +kernel), List.mem_of_getElem? (i := 414) (by decide +kernel)⟩
theorem lw_p13 : lw_okq (⟨"RouteGuide$WayFinder", "drive", "(I)V"⟩, 12) := ⟨⟨by decide +kernel, by decide +kernel⟩, List.mem_of_getElem? (i := 80) (by decide +kernel), List.mem_of_getElem? (i := 417) (by decide +kernel), List.mem_of_getElem? (i := 418) (by decide +kernel)⟩
theorem lw_p14 : lw_okq (⟨"RouteGuide$WayFinder", "spreadReach", "()V"⟩, 12) := ⟨⟨by decide +kernel, by decide +kernel⟩, List.mem_of_getElem? (i := 80) (by decide +kernel), List.mem_of_getElem? (i := 429) (by decide +kernel), List.mem_of_getElem? (i := 430) (by decide +kernel)⟩
theorem lw_p15 : lw_okq (⟨"RouteGuide$WayFinder", "topUp", "(II)I"⟩, 12) := ⟨⟨by decide +kernel, by decide +kernel⟩, List.mem_of_getElem? (i := 80) (by decide +kernel), List.mem_of_getElem? (i := 433) (by decide +kernel), List.mem_of_getElem? (i := 434) (by decide +kernel)⟩
def lw_privs_1 : List (MethodName × Nat) := [(⟨"RouteGuide", "findIntoSpare", "()Z"⟩, 10), (⟨"RouteGuide$WayFinder", "measureBackwards", "()V"⟩, 12), (⟨"RouteGuide$WayFinder", "levels", "()I"⟩, 12), (⟨"RouteGuide$Frontier", "rise", "(I)V"⟩, 4), (⟨"RouteGuide$Frontier", "sinkFromTop", "(I)V"⟩, 4), (⟨"RouteGuide$WayFinder", "startState", "()I"⟩, 12), (⟨"RouteGuide$WayFinder", "spreadBackwards", "(IIJ)V"⟩, 12), (⟨"RouteGuide$WayFinder", "mayFollow", "(II)Z"⟩, 12), (⟨"RouteGuide$WayFinder", "follow", "(LRouteGuide$Way;J)V"⟩, 12), (⟨"RouteGuide$WayFinder", "holdStart", "()V"⟩, 12), (⟨"RouteGuide$WayFinder", "charge", "(I)V"⟩, 12), (⟨"RouteGuide$WayFinder", "leastNext", "(IJ)I"⟩, 12), (⟨"RouteGuide$WayFinder", "meets", "(IJ)Z"⟩, 12), (⟨"RouteGuide$WayFinder", "drive", "(I)V"⟩, 12), (⟨"RouteGuide$WayFinder", "spreadReach", "()V"⟩, 12), (⟨"RouteGuide$WayFinder", "topUp", "(II)I"⟩, 12)]
theorem lw_r1 : ∀ q ∈ lw_privs_1, lw_okq q := List.forall_mem_cons.mpr ⟨lw_p0, List.forall_mem_cons.mpr ⟨lw_p1, List.forall_mem_cons.mpr ⟨lw_p2, List.forall_mem_cons.mpr ⟨lw_p3, List.forall_mem_cons.mpr ⟨lw_p4, List.forall_mem_cons.mpr ⟨lw_p5, List.forall_mem_cons.mpr ⟨lw_p6, List.forall_mem_cons.mpr ⟨lw_p7, List.forall_mem_cons.mpr ⟨lw_p8, List.forall_mem_cons.mpr ⟨lw_p9, List.forall_mem_cons.mpr ⟨lw_p10, List.forall_mem_cons.mpr ⟨lw_p11, List.forall_mem_cons.mpr ⟨lw_p12, List.forall_mem_cons.mpr ⟨lw_p13, List.forall_mem_cons.mpr ⟨lw_p14, List.forall_mem_cons.mpr ⟨lw_p15, fun _ h => absurd h List.not_mem_nil⟩⟩⟩⟩⟩⟩⟩⟩⟩⟩⟩⟩⟩⟩⟩⟩
theorem lw_p16 : lw_okq (⟨"RouteGuide$WayFinder", "reachOnFrom", "(I)Z"⟩, 12) := ⟨⟨by decide +kernel, by decide +kernel⟩, List.mem_of_getElem? (i := 80) (by decide +kernel), List.mem_of_getElem? (i := 438) (by decide +kernel), List.mem_of_getElem? (i := 439) (by decide +kernel)⟩
theorem lw_p17 : lw_okq (⟨"RouteGuide$WayFinder", "isReached", "(I)Z"⟩, 12) := ⟨⟨by decide +kernel, by decide +kernel⟩, List.mem_of_getElem? (i := 80) (by decide +kernel), List.mem_of_getElem? (i := 442) (by decide +kernel), List.mem_of_getElem? (i := 443) (by decide +kernel)⟩
theorem lw_p18 : lw_okq (⟨"RouteGuide", "takeSpare", "()V"⟩, 10) := ⟨⟨by decide +kernel, by decide +kernel⟩, List.mem_of_getElem? (i := 17) (by decide +kernel), List.mem_of_getElem? (i := 451) (by decide +kernel), List.mem_of_getElem? (i := 452) (by decide +kernel)⟩
theorem lw_p19 : lw_okq (⟨"RouteGuide", "fitsHeading", "(II)Z"⟩, 10) := ⟨⟨by decide +kernel, by decide +kernel⟩, List.mem_of_getElem? (i := 17) (by decide +kernel), List.mem_of_getElem? (i := 490) (by decide +kernel), List.mem_of_getElem? (i := 491) (by decide +kernel)⟩
theorem lw_p20 : lw_okq (⟨"RouteGuide", "stepX", "(I)J"⟩, 10) := ⟨⟨by decide +kernel, by decide +kernel⟩, List.mem_of_getElem? (i := 17) (by decide +kernel), List.mem_of_getElem? (i := 494) (by decide +kernel), List.mem_of_getElem? (i := 495) (by decide +kernel)⟩
theorem lw_p21 : lw_okq (⟨"RouteGuide", "stepY", "(I)J"⟩, 10) := ⟨⟨by decide +kernel, by decide +kernel⟩, List.mem_of_getElem? (i := 17) (by decide +kernel), List.mem_of_getElem? (i := 502) (by decide +kernel), List.mem_of_getElem? (i := 503) (by decide +kernel)⟩
theorem lw_p22 : lw_okq (⟨"RouteGuide", "squareFrom", "(IJJ)J"⟩, 10) := ⟨⟨by decide +kernel, by decide +kernel⟩, List.mem_of_getElem? (i := 17) (by decide +kernel), List.mem_of_getElem? (i := 513) (by decide +kernel), List.mem_of_getElem? (i := 514) (by decide +kernel)⟩
theorem lw_p23 : lw_okq (⟨"RouteGuide", "isSpareWorth", "(J)Z"⟩, 10) := ⟨⟨by decide +kernel, by decide +kernel⟩, List.mem_of_getElem? (i := 17) (by decide +kernel), List.mem_of_getElem? (i := 537) (by decide +kernel), List.mem_of_getElem? (i := 538) (by decide +kernel)⟩
theorem lw_p24 : lw_okq (⟨"RouteGuide$WayFinder", "leastHeld", "()J"⟩, 12) := ⟨⟨by decide +kernel, by decide +kernel⟩, List.mem_of_getElem? (i := 80) (by decide +kernel), List.mem_of_getElem? (i := 547) (by decide +kernel), List.mem_of_getElem? (i := 548) (by decide +kernel)⟩
theorem lw_p25 : lw_okq (⟨"RouteGuide", "adviceBetween", "(II)I"⟩, 10) := ⟨⟨by decide +kernel, by decide +kernel⟩, List.mem_of_getElem? (i := 17) (by decide +kernel), List.mem_of_getElem? (i := 560) (by decide +kernel), List.mem_of_getElem? (i := 561) (by decide +kernel)⟩
theorem lw_p26 : lw_okq (⟨"RouteGuide$NameSearch", "begins", "(I)Z"⟩, 2) := ⟨⟨by decide +kernel, by decide +kernel⟩, List.mem_of_getElem? (i := 142) (by decide +kernel), List.mem_of_getElem? (i := 600) (by decide +kernel), List.mem_of_getElem? (i := 601) (by decide +kernel)⟩
theorem lw_p27 : lw_okq (⟨"java/lang/Throwable", "fillInStackTrace", "(I)Ljava/lang/Throwable;"⟩, 6) := ⟨⟨by decide +kernel, by decide +kernel⟩, List.mem_of_getElem? (i := 668) (by decide +kernel), List.mem_of_getElem? (i := 666) (by decide +kernel), List.mem_of_getElem? (i := 667) (by decide +kernel)⟩
theorem lw_p28 : lw_okq (⟨"RouteGuideModel", "noNode", "(I)Z"⟩, 36) := ⟨⟨by decide +kernel, by decide +kernel⟩, List.mem_of_getElem? (i := 702) (by decide +kernel), List.mem_of_getElem? (i := 833) (by decide +kernel), List.mem_of_getElem? (i := 834) (by decide +kernel)⟩
theorem lw_p29 : lw_okq (⟨"RouteGuideModel", "noStreet", "(I)Z"⟩, 36) := ⟨⟨by decide +kernel, by decide +kernel⟩, List.mem_of_getElem? (i := 702) (by decide +kernel), List.mem_of_getElem? (i := 844) (by decide +kernel), List.mem_of_getElem? (i := 845) (by decide +kernel)⟩
theorem lw_p30 : lw_okq (⟨"RouteGuideModel", "findWay", "()Z"⟩, 36) := ⟨⟨by decide +kernel, by decide +kernel⟩, List.mem_of_getElem? (i := 702) (by decide +kernel), List.mem_of_getElem? (i := 862) (by decide +kernel), List.mem_of_getElem? (i := 863) (by decide +kernel)⟩
theorem lw_p31 : lw_okq (⟨"RouteGuideModel", "findCosts", "()V"⟩, 36) := ⟨⟨by decide +kernel, by decide +kernel⟩, List.mem_of_getElem? (i := 702) (by decide +kernel), List.mem_of_getElem? (i := 866) (by decide +kernel), List.mem_of_getElem? (i := 867) (by decide +kernel)⟩
def lw_privs_2 : List (MethodName × Nat) := [(⟨"RouteGuide$WayFinder", "reachOnFrom", "(I)Z"⟩, 12), (⟨"RouteGuide$WayFinder", "isReached", "(I)Z"⟩, 12), (⟨"RouteGuide", "takeSpare", "()V"⟩, 10), (⟨"RouteGuide", "fitsHeading", "(II)Z"⟩, 10), (⟨"RouteGuide", "stepX", "(I)J"⟩, 10), (⟨"RouteGuide", "stepY", "(I)J"⟩, 10), (⟨"RouteGuide", "squareFrom", "(IJJ)J"⟩, 10), (⟨"RouteGuide", "isSpareWorth", "(J)Z"⟩, 10), (⟨"RouteGuide$WayFinder", "leastHeld", "()J"⟩, 12), (⟨"RouteGuide", "adviceBetween", "(II)I"⟩, 10), (⟨"RouteGuide$NameSearch", "begins", "(I)Z"⟩, 2), (⟨"java/lang/Throwable", "fillInStackTrace", "(I)Ljava/lang/Throwable;"⟩, 6), (⟨"RouteGuideModel", "noNode", "(I)Z"⟩, 36), (⟨"RouteGuideModel", "noStreet", "(I)Z"⟩, 36), (⟨"RouteGuideModel", "findWay", "()Z"⟩, 36), (⟨"RouteGuideModel", "findCosts", "()V"⟩, 36)]
theorem lw_r2 : ∀ q ∈ lw_privs_2, lw_okq q := List.forall_mem_cons.mpr ⟨lw_p16, List.forall_mem_cons.mpr ⟨lw_p17, List.forall_mem_cons.mpr ⟨lw_p18, List.forall_mem_cons.mpr ⟨lw_p19, List.forall_mem_cons.mpr ⟨lw_p20, List.forall_mem_cons.mpr ⟨lw_p21, List.forall_mem_cons.mpr ⟨lw_p22, List.forall_mem_cons.mpr ⟨lw_p23, List.forall_mem_cons.mpr ⟨lw_p24, List.forall_mem_cons.mpr ⟨lw_p25, List.forall_mem_cons.mpr ⟨lw_p26, List.forall_mem_cons.mpr ⟨lw_p27, List.forall_mem_cons.mpr ⟨lw_p28, List.forall_mem_cons.mpr ⟨lw_p29, List.forall_mem_cons.mpr ⟨lw_p30, List.forall_mem_cons.mpr ⟨lw_p31, fun _ h => absurd h List.not_mem_nil⟩⟩⟩⟩⟩⟩⟩⟩⟩⟩⟩⟩⟩⟩⟩⟩
theorem lw_p32 : lw_okq (⟨"RouteGuideModel", "top", "()I"⟩, 36) := ⟨⟨by decide +kernel, by decide +kernel⟩, List.mem_of_getElem? (i := 702) (by decide +kernel), List.mem_of_getElem? (i := 870) (by decide +kernel), List.mem_of_getElem? (i := 871) (by decide +kernel)⟩
theorem lw_p33 : lw_okq (⟨"RouteGuideModel", "place", "(I)I"⟩, 36) := ⟨⟨by decide +kernel, by decide +kernel⟩, List.mem_of_getElem? (i := 702) (by decide +kernel), List.mem_of_getElem? (i := 874) (by decide +kernel), List.mem_of_getElem? (i := 875) (by decide +kernel)⟩
theorem lw_p34 : lw_okq (⟨"RouteGuideModel", "unit", "(I)J"⟩, 36) := ⟨⟨by decide +kernel, by decide +kernel⟩, List.mem_of_getElem? (i := 702) (by decide +kernel), List.mem_of_getElem? (i := 878) (by decide +kernel), List.mem_of_getElem? (i := 879) (by decide +kernel)⟩
theorem lw_p35 : lw_okq (⟨"RouteGuideModel", "less", "(IJI)Z"⟩, 36) := ⟨⟨by decide +kernel, by decide +kernel⟩, List.mem_of_getElem? (i := 702) (by decide +kernel), List.mem_of_getElem? (i := 882) (by decide +kernel), List.mem_of_getElem? (i := 883) (by decide +kernel)⟩
theorem lw_p36 : lw_okq (⟨"RouteGuideModel", "needs", "(I)I"⟩, 36) := ⟨⟨by decide +kernel, by decide +kernel⟩, List.mem_of_getElem? (i := 702) (by decide +kernel), List.mem_of_getElem? (i := 886) (by decide +kernel), List.mem_of_getElem? (i := 887) (by decide +kernel)⟩
theorem lw_p37 : lw_okq (⟨"RouteGuideModel", "goes", "(III)Z"⟩, 36) := ⟨⟨by decide +kernel, by decide +kernel⟩, List.mem_of_getElem? (i := 702) (by decide +kernel), List.mem_of_getElem? (i := 890) (by decide +kernel), List.mem_of_getElem? (i := 891) (by decide +kernel)⟩
theorem lw_p38 : lw_okq (⟨"RouteGuideModel", "price", "(I)J"⟩, 36) := ⟨⟨by decide +kernel, by decide +kernel⟩, List.mem_of_getElem? (i := 702) (by decide +kernel), List.mem_of_getElem? (i := 894) (by decide +kernel), List.mem_of_getElem? (i := 895) (by decide +kernel)⟩
theorem lw_p39 : lw_okq (⟨"RouteGuideModel", "findLast", "(I)V"⟩, 36) := ⟨⟨by decide +kernel, by decide +kernel⟩, List.mem_of_getElem? (i := 702) (by decide +kernel), List.mem_of_getElem? (i := 898) (by decide +kernel), List.mem_of_getElem? (i := 899) (by decide +kernel)⟩
theorem lw_p40 : lw_okq (⟨"RouteGuideModel", "far", "(I)J"⟩, 36) := ⟨⟨by decide +kernel, by decide +kernel⟩, List.mem_of_getElem? (i := 702) (by decide +kernel), List.mem_of_getElem? (i := 902) (by decide +kernel), List.mem_of_getElem? (i := 903) (by decide +kernel)⟩
theorem lw_p41 : lw_okq (⟨"RouteGuideModel", "charge", "()V"⟩, 36) := ⟨⟨by decide +kernel, by decide +kernel⟩, List.mem_of_getElem? (i := 702) (by decide +kernel), List.mem_of_getElem? (i := 906) (by decide +kernel), List.mem_of_getElem? (i := 907) (by decide +kernel)⟩
theorem lw_p42 : lw_okq (⟨"RouteGuideModel", "bestBy", "(I)Z"⟩, 36) := ⟨⟨by decide +kernel, by decide +kernel⟩, List.mem_of_getElem? (i := 702) (by decide +kernel), List.mem_of_getElem? (i := 910) (by decide +kernel), List.mem_of_getElem? (i := 911) (by decide +kernel)⟩
theorem lw_p43 : lw_okq (⟨"RouteGuideModel", "take", "()V"⟩, 36) := ⟨⟨by decide +kernel, by decide +kernel⟩, List.mem_of_getElem? (i := 702) (by decide +kernel), List.mem_of_getElem? (i := 914) (by decide +kernel), List.mem_of_getElem? (i := 915) (by decide +kernel)⟩
theorem lw_p44 : lw_okq (⟨"RouteGuideModel", "costNow", "()J"⟩, 36) := ⟨⟨by decide +kernel, by decide +kernel⟩, List.mem_of_getElem? (i := 702) (by decide +kernel), List.mem_of_getElem? (i := 922) (by decide +kernel), List.mem_of_getElem? (i := 923) (by decide +kernel)⟩
theorem lw_p45 : lw_okq (⟨"RouteGuideModel", "square", "(IJJ)J"⟩, 36) := ⟨⟨by decide +kernel, by decide +kernel⟩, List.mem_of_getElem? (i := 702) (by decide +kernel), List.mem_of_getElem? (i := 952) (by decide +kernel), List.mem_of_getElem? (i := 953) (by decide +kernel)⟩
def lw_privs_3 : List (MethodName × Nat) := [(⟨"RouteGuideModel", "top", "()I"⟩, 36), (⟨"RouteGuideModel", "place", "(I)I"⟩, 36), (⟨"RouteGuideModel", "unit", "(I)J"⟩, 36), (⟨"RouteGuideModel", "less", "(IJI)Z"⟩, 36), (⟨"RouteGuideModel", "needs", "(I)I"⟩, 36), (⟨"RouteGuideModel", "goes", "(III)Z"⟩, 36), (⟨"RouteGuideModel", "price", "(I)J"⟩, 36), (⟨"RouteGuideModel", "findLast", "(I)V"⟩, 36), (⟨"RouteGuideModel", "far", "(I)J"⟩, 36), (⟨"RouteGuideModel", "charge", "()V"⟩, 36), (⟨"RouteGuideModel", "bestBy", "(I)Z"⟩, 36), (⟨"RouteGuideModel", "take", "()V"⟩, 36), (⟨"RouteGuideModel", "costNow", "()J"⟩, 36), (⟨"RouteGuideModel", "square", "(IJJ)J"⟩, 36)]
theorem lw_r3 : ∀ q ∈ lw_privs_3, lw_okq q := List.forall_mem_cons.mpr ⟨lw_p32, List.forall_mem_cons.mpr ⟨lw_p33, List.forall_mem_cons.mpr ⟨lw_p34, List.forall_mem_cons.mpr ⟨lw_p35, List.forall_mem_cons.mpr ⟨lw_p36, List.forall_mem_cons.mpr ⟨lw_p37, List.forall_mem_cons.mpr ⟨lw_p38, List.forall_mem_cons.mpr ⟨lw_p39, List.forall_mem_cons.mpr ⟨lw_p40, List.forall_mem_cons.mpr ⟨lw_p41, List.forall_mem_cons.mpr ⟨lw_p42, List.forall_mem_cons.mpr ⟨lw_p43, List.forall_mem_cons.mpr ⟨lw_p44, List.forall_mem_cons.mpr ⟨lw_p45, fun _ h => absurd h List.not_mem_nil⟩⟩⟩⟩⟩⟩⟩⟩⟩⟩⟩⟩⟩⟩
def lw_privs : List (MethodName × Nat) := lw_privs_1 ++ (lw_privs_2 ++ (lw_privs_3))
def lw_tbl : List Cond := k2_sels lw_privs ++ tables_1
theorem lw_privs_ok : ∀ q ∈ lw_privs, lw_okq q := by
  show ∀ q ∈ lw_privs_1 ++ (lw_privs_2 ++ (lw_privs_3)), lw_okq q
  exact List.forall_mem_append.mpr ⟨lw_r1, List.forall_mem_append.mpr ⟨lw_r2, lw_r3⟩⟩
end
section
/-! THE PROGRAM'S TABLES: printed by wip/gen/tables.py. Classes, fields, methods, links, constants, the code by blocks. -/
def am_cn (c : Nat) : String := match c with
  | 0 => "RouteGuide$Frontier"
  | 1 => "RouteGuide$MapParts"
  | 2 => "RouteGuide$NameSearch"
  | 3 => "RouteGuide$Places"
  | 4 => "RouteGuide$Streets"
  | 5 => "RouteGuide$Way"
  | 6 => "RouteGuide$WayFinder"
  | 7 => "RouteGuide"
  | 8 => "RouteGuideModel"
  | 9 => "RouteGuide$Geometry"
  | 10 => "RouteGuideLaw"
  | _ => ""
def am_nf (c : Nat) : Nat := match c with
  | 0 => 4
  | 1 => 2
  | 2 => 2
  | 3 => 4
  | 4 => 9
  | 5 => 4
  | 6 => 12
  | 7 => 10
  | 8 => 36
  | _ => 0
def am_ftL (c : Nat) : List Nat := match c with
  | 0 => [3, 3, 3, 0]
  | 1 => [0, 0]
  | 2 => [3, 0]
  | 3 => [3, 3, 3, 0]
  | 4 => [3, 3, 3, 3, 3, 3, 3, 3, 0]
  | 5 => [3, 0, 2, 1]
  | 6 => [3, 3, 3, 3, 3, 3, 3, 3, 0, 0, 0, 0]
  | 7 => [3, 3, 3, 3, 3, 3, 3, 1, 2, 0]
  | 8 => [0, 0, 3, 3, 3, 0, 3, 3, 3, 3, 3, 3, 3, 3, 2, 0, 0, 0, 0, 3, 3, 3, 3, 0, 3, 2, 3, 0, 3, 2, 0, 3, 0, 3, 0, 0]
  | _ => []
def am_ft (c k : Nat) : Nat := (am_ftL c).getD k 9
def am_ffL (c : Nat) : List Bool := match c with
  | 0 => [true, true, true, false]
  | 1 => [false, false]
  | 2 => [true, false]
  | 3 => [true, true, true, false]
  | 4 => [true, true, true, true, true, true, true, true, false]
  | 5 => [true, false, false, false]
  | 6 => [true, true, true, true, true, true, true, true, false, false, false, false]
  | 7 => [true, true, true, true, true, false, false, false, false, false]
  | 8 => [false, false, true, true, true, false, true, true, true, true, true, true, true, true, false, false, false, false, false, true, true, true, true, false, true, false, true, false, true, false, false, true, false, true, false, false]
  | _ => []
def am_ff (c k : Nat) : Bool := (am_ffL c).getD k false
def tb_TL0 : List (String × String × String × Bool) := [("RouteGuide$Frontier", "key", "[J", true), ("RouteGuide$Frontier", "place", "[I", true), ("RouteGuide$Frontier", "heap", "[I", true), ("RouteGuide$Frontier", "size", "I", false)]
def tb_T0 : u_T := fun k => tb_TL0.getD k ("", "", "", false)
def tb_yL0 : List FieldType := [.array .long, .array .int, .array .int, .int]
def tb_y0 : Nat → FieldType := fun k => tb_yL0.getD k .int
def tb_TL1 : List (String × String × String × Bool) := [("RouteGuide$MapParts", "edition", "I", false), ("RouteGuide$MapParts", "have", "I", false)]
def tb_T1 : u_T := fun k => tb_TL1.getD k ("", "", "", false)
def tb_yL1 : List FieldType := [.int, .int]
def tb_y1 : Nat → FieldType := fun k => tb_yL1.getD k .int
def tb_TL2 : List (String × String × String × Bool) := [("RouteGuide$NameSearch", "typed", "[I", true), ("RouteGuide$NameSearch", "size", "I", false)]
def tb_T2 : u_T := fun k => tb_TL2.getD k ("", "", "", false)
def tb_yL2 : List FieldType := [.array .int, .int]
def tb_y2 : Nat → FieldType := fun k => tb_yL2.getD k .int
def tb_TL3 : List (String × String × String × Bool) := [("RouteGuide$Places", "x", "[J", true), ("RouteGuide$Places", "y", "[J", true), ("RouteGuide$Places", "rate", "[J", true), ("RouteGuide$Places", "count", "I", false)]
def tb_T3 : u_T := fun k => tb_TL3.getD k ("", "", "", false)
def tb_yL3 : List FieldType := [.array .long, .array .long, .array .long, .int]
def tb_y3 : Nat → FieldType := fun k => tb_yL3.getD k .int
def tb_TL4 : List (String × String × String × Bool) := [("RouteGuide$Streets", "begin", "[I", true), ("RouteGuide$Streets", "end", "[I", true), ("RouteGuide$Streets", "length", "[J", true), ("RouteGuide$Streets", "speed", "[J", true), ("RouteGuide$Streets", "cls", "[I", true), ("RouteGuide$Streets", "trafficSpeed", "[J", true), ("RouteGuide$Streets", "trafficUntil", "[J", true), ("RouteGuide$Streets", "barred", "[J", true), ("RouteGuide$Streets", "count", "I", false)]
def tb_T4 : u_T := fun k => tb_TL4.getD k ("", "", "", false)
def tb_yL4 : List FieldType := [.array .int, .array .int, .array .long, .array .long, .array .int, .array .long, .array .long, .array .long, .int]
def tb_y4 : Nat → FieldType := fun k => tb_yL4.getD k .int
def tb_TL5 : List (String × String × String × Bool) := [("RouteGuide$Way", "row", "[I", true), ("RouteGuide$Way", "size", "I", false), ("RouteGuide$Way", "total", "J", false), ("RouteGuide$Way", "there", "Z", false)]
def tb_T5 : u_T := fun k => tb_TL5.getD k ("", "", "", false)
def tb_yL5 : List FieldType := [.array .int, .int, .long, .boolean]
def tb_y5 : Nat → FieldType := fun k => tb_yL5.getD k .int
def tb_TL6 : List (String × String × String × Bool) := [("RouteGuide$WayFinder", "places", "LRouteGuide$Places;", true), ("RouteGuide$WayFinder", "streets", "LRouteGuide$Streets;", true), ("RouteGuide$WayFinder", "frontier", "LRouteGuide$Frontier;", true), ("RouteGuide$WayFinder", "weight", "[J", true), ("RouteGuide$WayFinder", "use", "[I", true), ("RouteGuide$WayFinder", "unit", "[J", true), ("RouteGuide$WayFinder", "reach", "[I", true), ("RouteGuide$WayFinder", "held", "[J", true), ("RouteGuide$WayFinder", "from", "I", false), ("RouteGuide$WayFinder", "to", "I", false), ("RouteGuide$WayFinder", "kind", "I", false), ("RouteGuide$WayFinder", "energy", "I", false)]
def tb_T6 : u_T := fun k => tb_TL6.getD k ("", "", "", false)
def tb_yL6 : List FieldType := [.object "RouteGuide$Places", .object "RouteGuide$Streets", .object "RouteGuide$Frontier", .array .long, .array .int, .array .long, .array .int, .array .long, .int, .int, .int, .int]
def tb_y6 : Nat → FieldType := fun k => tb_yL6.getD k .int
def tb_TL7 : List (String × String × String × Bool) := [("RouteGuide", "places", "LRouteGuide$Places;", true), ("RouteGuide", "streets", "LRouteGuide$Streets;", true), ("RouteGuide", "finder", "LRouteGuide$WayFinder;", true), ("RouteGuide", "names", "LRouteGuide$NameSearch;", true), ("RouteGuide", "parts", "LRouteGuide$MapParts;", true), ("RouteGuide", "way", "LRouteGuide$Way;", false), ("RouteGuide", "spare", "LRouteGuide$Way;", false), ("RouteGuide", "planned", "Z", false), ("RouteGuide", "plans", "J", false), ("RouteGuide", "lastCharger", "I", false)]
def tb_T7 : u_T := fun k => tb_TL7.getD k ("", "", "", false)
def tb_yL7 : List FieldType := [.object "RouteGuide$Places", .object "RouteGuide$Streets", .object "RouteGuide$WayFinder", .object "RouteGuide$NameSearch", .object "RouteGuide$MapParts", .object "RouteGuide$Way", .object "RouteGuide$Way", .boolean, .long, .int]
def tb_y7 : Nat → FieldType := fun k => tb_yL7.getD k .int
def tb_TL8 : List (String × String × String × Bool) := [("RouteGuideModel", "code", "I", false), ("RouteGuideModel", "nodes", "I", false), ("RouteGuideModel", "x", "[J", true), ("RouteGuideModel", "y", "[J", true), ("RouteGuideModel", "rate", "[J", true), ("RouteGuideModel", "streets", "I", false), ("RouteGuideModel", "begin", "[I", true), ("RouteGuideModel", "end", "[I", true), ("RouteGuideModel", "length", "[J", true), ("RouteGuideModel", "speed", "[J", true), ("RouteGuideModel", "use", "[I", true), ("RouteGuideModel", "other", "[J", true), ("RouteGuideModel", "until", "[J", true), ("RouteGuideModel", "barred", "[Z", true), ("RouteGuideModel", "plans", "J", false), ("RouteGuideModel", "from", "I", false), ("RouteGuideModel", "to", "I", false), ("RouteGuideModel", "kind", "I", false), ("RouteGuideModel", "energy", "I", false), ("RouteGuideModel", "cost", "[J", true), ("RouteGuideModel", "count", "[I", true), ("RouteGuideModel", "now", "[Z", true), ("RouteGuideModel", "next", "[Z", true), ("RouteGuideModel", "ways", "I", false), ("RouteGuideModel", "way", "[I", true), ("RouteGuideModel", "wayCost", "J", false), ("RouteGuideModel", "asked", "[Z", true), ("RouteGuideModel", "founds", "I", false), ("RouteGuideModel", "found", "[I", true), ("RouteGuideModel", "foundCost", "J", false), ("RouteGuideModel", "last", "I", false), ("RouteGuideModel", "rest", "[J", true), ("RouteGuideModel", "letters", "I", false), ("RouteGuideModel", "letter", "[I", true), ("RouteGuideModel", "edition", "I", false), ("RouteGuideModel", "parts", "I", false)]
def tb_T8 : u_T := fun k => tb_TL8.getD k ("", "", "", false)
def tb_yL8 : List FieldType := [.int, .int, .array .long, .array .long, .array .long, .int, .array .int, .array .int, .array .long, .array .long, .array .int, .array .long, .array .long, .array .boolean, .long, .int, .int, .int, .int, .array .long, .array .int, .array .boolean, .array .boolean, .int, .array .int, .long, .array .boolean, .int, .array .int, .long, .int, .array .long, .int, .array .int, .int, .int]
def tb_y8 : Nat → FieldType := fun k => tb_yL8.getD k .int
def vwCl : List vw_C := [(am_cn 0, tb_T0, am_nf 0), (am_cn 1, tb_T1, am_nf 1), (am_cn 2, tb_T2, am_nf 2), (am_cn 3, tb_T3, am_nf 3), (am_cn 4, tb_T4, am_nf 4), (am_cn 5, tb_T5, am_nf 5), (am_cn 6, tb_T6, am_nf 6), (am_cn 7, tb_T7, am_nf 7), (am_cn 8, tb_T8, am_nf 8)]
def am_yL : List MethodName := [⟨"RouteGuide", "<init>", "()V"⟩, ⟨"RouteGuide", "node", "(JJ)I"⟩, ⟨"RouteGuide", "street", "(IIJJI)I"⟩, ⟨"RouteGuide", "turn", "(IIZ)I"⟩, ⟨"RouteGuide", "charger", "(IJ)I"⟩, ⟨"RouteGuide", "plan", "(IIIJ)I"⟩, ⟨"RouteGuide", "at", "(I)I"⟩, ⟨"RouteGuide", "cost", "()J"⟩, ⟨"RouteGuide", "snap", "(JJI)I"⟩, ⟨"RouteGuide", "traffic", "(IJJ)I"⟩, ⟨"RouteGuide", "replan", "(J)I"⟩, ⟨"RouteGuide", "advice", "(II)I"⟩, ⟨"RouteGuide", "search", "(I)I"⟩, ⟨"RouteGuide", "last", "()I"⟩, ⟨"RouteGuide", "part", "(II)I"⟩, ⟨"RouteGuide", "isWithin", "(JJ)Z"⟩, ⟨"RouteGuide", "findIntoSpare", "()Z"⟩, ⟨"RouteGuide", "takeSpare", "()V"⟩, ⟨"RouteGuide", "isSpareWorth", "(J)Z"⟩, ⟨"RouteGuide", "stepX", "(I)J"⟩, ⟨"RouteGuide", "stepY", "(I)J"⟩, ⟨"RouteGuide", "adviceBetween", "(II)I"⟩, ⟨"RouteGuide", "fitsHeading", "(II)Z"⟩, ⟨"RouteGuide", "squareFrom", "(IJJ)J"⟩, ⟨"RouteGuideModel", "<init>", "()V"⟩, ⟨"RouteGuideModel", "thrown", "()I"⟩, ⟨"RouteGuideModel", "noNode", "(I)Z"⟩, ⟨"RouteGuideModel", "noStreet", "(I)Z"⟩, ⟨"RouteGuideModel", "node", "(JJ)I"⟩, ⟨"RouteGuideModel", "street", "(IIJJI)I"⟩, ⟨"RouteGuideModel", "turn", "(IIZ)I"⟩, ⟨"RouteGuideModel", "charger", "(IJ)I"⟩, ⟨"RouteGuideModel", "traffic", "(IJJ)I"⟩, ⟨"RouteGuideModel", "price", "(I)J"⟩, ⟨"RouteGuideModel", "unit", "(I)J"⟩, ⟨"RouteGuideModel", "top", "()I"⟩, ⟨"RouteGuideModel", "needs", "(I)I"⟩, ⟨"RouteGuideModel", "place", "(I)I"⟩, ⟨"RouteGuideModel", "goes", "(III)Z"⟩, ⟨"RouteGuideModel", "less", "(IJI)Z"⟩, ⟨"RouteGuideModel", "findCosts", "()V"⟩, ⟨"RouteGuideModel", "charge", "()V"⟩, ⟨"RouteGuideModel", "bestBy", "(I)Z"⟩, ⟨"RouteGuideModel", "findWay", "()Z"⟩, ⟨"RouteGuideModel", "far", "(I)J"⟩, ⟨"RouteGuideModel", "findLast", "(I)V"⟩, ⟨"RouteGuideModel", "take", "()V"⟩, ⟨"RouteGuideModel", "plan", "(IIIJ)I"⟩, ⟨"RouteGuideModel", "costNow", "()J"⟩, ⟨"RouteGuideModel", "replan", "(J)I"⟩, ⟨"RouteGuideModel", "at", "(I)I"⟩, ⟨"RouteGuideModel", "cost", "()J"⟩, ⟨"RouteGuideModel", "last", "()I"⟩, ⟨"RouteGuideModel", "advice", "(II)I"⟩, ⟨"RouteGuideModel", "octant", "(JJ)I"⟩, ⟨"RouteGuideModel", "square", "(IJJ)J"⟩, ⟨"RouteGuideModel", "snap", "(JJI)I"⟩, ⟨"RouteGuideModel", "letterOf", "(II)I"⟩, ⟨"RouteGuideModel", "search", "(I)I"⟩, ⟨"RouteGuideModel", "part", "(II)I"⟩, ⟨"RouteGuide$Frontier", "<init>", "()V"⟩, ⟨"RouteGuide$Frontier", "reset", "(I)V"⟩, ⟨"RouteGuide$Frontier", "keyOf", "(I)J"⟩, ⟨"RouteGuide$Frontier", "lower", "(IJ)V"⟩, ⟨"RouteGuide$Frontier", "takeLeast", "()I"⟩, ⟨"RouteGuide$Frontier", "rise", "(I)V"⟩, ⟨"RouteGuide$Frontier", "sinkFromTop", "(I)V"⟩, ⟨"RouteGuide$Geometry", "adviceKind", "(JJJJ)I"⟩, ⟨"RouteGuide$Geometry", "octant", "(JJ)I"⟩, ⟨"RouteGuide$Geometry", "squareFromPiece", "(JJJJ)J"⟩, ⟨"RouteGuide$MapParts", "<init>", "()V"⟩, ⟨"RouteGuide$MapParts", "take", "(II)Z"⟩, ⟨"RouteGuide$NameSearch", "<init>", "()V"⟩, ⟨"RouteGuide$NameSearch", "isLetter", "(I)Z"⟩, ⟨"RouteGuide$NameSearch", "isFull", "()Z"⟩, ⟨"RouteGuide$NameSearch", "clear", "()V"⟩, ⟨"RouteGuide$NameSearch", "add", "(I)V"⟩, ⟨"RouteGuide$NameSearch", "countMatches", "(I)I"⟩, ⟨"RouteGuide$NameSearch", "begins", "(I)Z"⟩, ⟨"RouteGuide$NameSearch", "letterOf", "(II)I"⟩, ⟨"RouteGuide$Places", "<init>", "()V"⟩, ⟨"RouteGuide$Places", "count", "()I"⟩, ⟨"RouteGuide$Places", "has", "(I)Z"⟩, ⟨"RouteGuide$Places", "isFull", "()Z"⟩, ⟨"RouteGuide$Places", "add", "(JJ)I"⟩, ⟨"RouteGuide$Places", "xOf", "(I)J"⟩, ⟨"RouteGuide$Places", "yOf", "(I)J"⟩, ⟨"RouteGuide$Places", "squareBetween", "(II)J"⟩, ⟨"RouteGuide$Places", "setRate", "(IJ)V"⟩, ⟨"RouteGuide$Places", "hasCharger", "(I)Z"⟩, ⟨"RouteGuide$Places", "unitTime", "(I)J"⟩, ⟨"RouteGuide$Places", "countChargers", "()I"⟩, ⟨"RouteGuide$Streets", "<init>", "()V"⟩, ⟨"RouteGuide$Streets", "count", "()I"⟩, ⟨"RouteGuide$Streets", "has", "(I)Z"⟩, ⟨"RouteGuide$Streets", "isFull", "()Z"⟩, ⟨"RouteGuide$Streets", "add", "(IIJJI)I"⟩, ⟨"RouteGuide$Streets", "setFirstNode", "(I)V"⟩, ⟨"RouteGuide$Streets", "beginOf", "(I)I"⟩, ⟨"RouteGuide$Streets", "endOf", "(I)I"⟩, ⟨"RouteGuide$Streets", "lengthOf", "(I)J"⟩, ⟨"RouteGuide$Streets", "useOf", "(I)I"⟩, ⟨"RouteGuide$Streets", "isBarred", "(II)Z"⟩, ⟨"RouteGuide$Streets", "flipBarred", "(II)V"⟩, ⟨"RouteGuide$Streets", "setTraffic", "(IJJ)V"⟩, ⟨"RouteGuide$Streets", "countTraffic", "(J)I"⟩, ⟨"RouteGuide$Streets", "timeAt", "(IJ)J"⟩, ⟨"RouteGuide$Way", "<init>", "()V"⟩, ⟨"RouteGuide$Way", "isThere", "()Z"⟩, ⟨"RouteGuide$Way", "size", "()I"⟩, ⟨"RouteGuide$Way", "total", "()J"⟩, ⟨"RouteGuide$Way", "streetAt", "(I)I"⟩, ⟨"RouteGuide$Way", "drop", "()V"⟩, ⟨"RouteGuide$Way", "add", "(I)V"⟩, ⟨"RouteGuide$Way", "finish", "(J)V"⟩, ⟨"RouteGuide$Way", "askFirst", "(I)Z"⟩, ⟨"RouteGuide$Way", "isSameRow", "(LRouteGuide$Way;)Z"⟩, ⟨"RouteGuide$WayFinder", "<init>", "(LRouteGuide$Places;LRouteGuide$Streets;)V"⟩, ⟨"RouteGuide$WayFinder", "setTask", "(IIII)V"⟩, ⟨"RouteGuide$WayFinder", "weigh", "(J)V"⟩, ⟨"RouteGuide$WayFinder", "findInto", "(LRouteGuide$Way;)Z"⟩, ⟨"RouteGuide$WayFinder", "totalNow", "(LRouteGuide$Way;)J"⟩, ⟨"RouteGuide$WayFinder", "nearestCharger", "()I"⟩, ⟨"RouteGuide$WayFinder", "levels", "()I"⟩, ⟨"RouteGuide$WayFinder", "startState", "()I"⟩, ⟨"RouteGuide$WayFinder", "mayFollow", "(II)Z"⟩, ⟨"RouteGuide$WayFinder", "measureBackwards", "()V"⟩, ⟨"RouteGuide$WayFinder", "spreadBackwards", "(IIJ)V"⟩, ⟨"RouteGuide$WayFinder", "follow", "(LRouteGuide$Way;J)V"⟩, ⟨"RouteGuide$WayFinder", "leastNext", "(IJ)I"⟩, ⟨"RouteGuide$WayFinder", "meets", "(IJ)Z"⟩, ⟨"RouteGuide$WayFinder", "holdStart", "()V"⟩, ⟨"RouteGuide$WayFinder", "charge", "(I)V"⟩, ⟨"RouteGuide$WayFinder", "drive", "(I)V"⟩, ⟨"RouteGuide$WayFinder", "leastHeld", "()J"⟩, ⟨"RouteGuide$WayFinder", "spreadReach", "()V"⟩, ⟨"RouteGuide$WayFinder", "reachOnFrom", "(I)Z"⟩, ⟨"RouteGuide$WayFinder", "topUp", "(II)I"⟩, ⟨"RouteGuide$WayFinder", "isReached", "(I)Z"⟩, ⟨"RouteGuideLaw", "street", "(LRouteGuide;IIJJI[J)I"⟩, ⟨"RouteGuideLaw", "law", "([I)Z"⟩]
def am_y (j : Nat) : MethodName := am_yL.getD j ⟨"", "", ""⟩
def am_byL : List ByteArray := [prog_1_method_1_code, prog_1_method_2_code, prog_1_method_3_code, prog_1_method_4_code, prog_1_method_5_code, prog_1_method_6_code, prog_1_method_7_code, prog_1_method_8_code, prog_1_method_9_code, prog_1_method_10_code, prog_1_method_11_code, prog_1_method_12_code, prog_1_method_13_code, prog_1_method_14_code, prog_1_method_15_code, prog_1_method_16_code, prog_1_method_17_code, prog_1_method_18_code, prog_1_method_19_code, prog_1_method_20_code, prog_1_method_21_code, prog_1_method_22_code, prog_1_method_23_code, prog_1_method_24_code, prog_11_method_1_code, prog_11_method_2_code, prog_11_method_3_code, prog_11_method_4_code, prog_11_method_5_code, prog_11_method_6_code, prog_11_method_7_code, prog_11_method_8_code, prog_11_method_9_code, prog_11_method_10_code, prog_11_method_11_code, prog_11_method_12_code, prog_11_method_13_code, prog_11_method_14_code, prog_11_method_15_code, prog_11_method_16_code, prog_11_method_17_code, prog_11_method_18_code, prog_11_method_19_code, prog_11_method_20_code, prog_11_method_21_code, prog_11_method_22_code, prog_11_method_23_code, prog_11_method_24_code, prog_11_method_25_code, prog_11_method_26_code, prog_11_method_27_code, prog_11_method_28_code, prog_11_method_29_code, prog_11_method_30_code, prog_11_method_31_code, prog_11_method_32_code, prog_11_method_33_code, prog_11_method_34_code, prog_11_method_35_code, prog_11_method_36_code, prog_2_method_1_code, prog_2_method_2_code, prog_2_method_3_code, prog_2_method_4_code, prog_2_method_5_code, prog_2_method_6_code, prog_2_method_7_code, prog_3_method_2_code, prog_3_method_3_code, prog_3_method_4_code, prog_4_method_1_code, prog_4_method_2_code, prog_5_method_1_code, prog_5_method_2_code, prog_5_method_3_code, prog_5_method_4_code, prog_5_method_5_code, prog_5_method_6_code, prog_5_method_7_code, prog_5_method_8_code, prog_6_method_1_code, prog_6_method_2_code, prog_6_method_3_code, prog_6_method_4_code, prog_6_method_5_code, prog_6_method_6_code, prog_6_method_7_code, prog_6_method_8_code, prog_6_method_9_code, prog_6_method_10_code, prog_6_method_11_code, prog_6_method_12_code, prog_7_method_1_code, prog_7_method_2_code, prog_7_method_3_code, prog_7_method_4_code, prog_7_method_5_code, prog_7_method_6_code, prog_7_method_7_code, prog_7_method_8_code, prog_7_method_9_code, prog_7_method_10_code, prog_7_method_11_code, prog_7_method_12_code, prog_7_method_13_code, prog_7_method_14_code, prog_7_method_15_code, prog_8_method_1_code, prog_8_method_2_code, prog_8_method_3_code, prog_8_method_4_code, prog_8_method_5_code, prog_8_method_6_code, prog_8_method_7_code, prog_8_method_8_code, prog_8_method_9_code, prog_8_method_10_code, prog_9_method_1_code, prog_9_method_2_code, prog_9_method_3_code, prog_9_method_4_code, prog_9_method_5_code, prog_9_method_6_code, prog_9_method_7_code, prog_9_method_8_code, prog_9_method_9_code, prog_9_method_10_code, prog_9_method_11_code, prog_9_method_12_code, prog_9_method_13_code, prog_9_method_14_code, prog_9_method_15_code, prog_9_method_16_code, prog_9_method_17_code, prog_9_method_18_code, prog_9_method_19_code, prog_9_method_20_code, prog_9_method_21_code, prog_9_method_22_code, method_3_code, code]
def am_by (j : Nat) : ByteArray := am_byL.getD j code
def am_mLL : List Nat := [1, 5, 8, 4, 4, 6, 2, 1, 12, 6, 3, 3, 2, 1, 3, 4, 2, 2, 5, 2, 2, 3, 5, 7, 1, 1, 2, 2, 5, 8, 5, 6, 8, 4, 2, 1, 2, 2, 4, 5, 9, 6, 7, 5, 2, 8, 2, 7, 8, 7, 2, 1, 1, 19, 4, 20, 15, 2, 6, 4, 1, 3, 2, 4, 3, 5, 6, 14, 4, 14, 1, 3, 1, 2, 1, 1, 2, 4, 3, 2, 1, 1, 2, 1, 5, 2, 2, 7, 4, 2, 4, 3, 1, 1, 2, 1, 8, 2, 2, 2, 2, 2, 3, 3, 6, 5, 6, 1, 1, 1, 1, 2, 1, 2, 3, 2, 3, 3, 5, 8, 4, 5, 7, 1, 1, 3, 5, 10, 7, 5, 8, 2, 5, 4, 4, 4, 5, 3, 3, 10, 7]
def am_mL (j : Nat) : Nat := am_mLL.getD j 0
def am_rtL : List Nat := [3, 0, 0, 0, 0, 0, 0, 2, 0, 0, 0, 0, 0, 0, 0, 1, 1, 3, 1, 2, 2, 0, 1, 2, 3, 0, 1, 1, 0, 0, 0, 0, 0, 2, 2, 0, 0, 0, 1, 1, 3, 3, 1, 1, 2, 3, 3, 0, 2, 0, 0, 2, 0, 0, 0, 2, 0, 0, 0, 0, 3, 3, 2, 3, 0, 3, 3, 0, 0, 2, 3, 1, 3, 1, 1, 3, 3, 0, 1, 0, 3, 0, 1, 1, 0, 2, 2, 2, 3, 1, 2, 0, 3, 0, 1, 1, 0, 3, 0, 0, 2, 0, 1, 3, 3, 0, 2, 3, 1, 0, 2, 0, 3, 3, 3, 1, 1, 3, 3, 3, 1, 2, 0, 0, 0, 1, 3, 3, 3, 0, 1, 3, 3, 3, 2, 3, 1, 0, 1, 0, 1]
def am_rt (j : Nat) : Nat := am_rtL.getD j 9
def am_owL : List Nat := [7, 7, 7, 7, 7, 7, 7, 7, 7, 7, 7, 7, 7, 7, 7, 7, 7, 7, 7, 7, 7, 7, 7, 7, 8, 8, 8, 8, 8, 8, 8, 8, 8, 8, 8, 8, 8, 8, 8, 8, 8, 8, 8, 8, 8, 8, 8, 8, 8, 8, 8, 8, 8, 8, 8, 8, 8, 8, 8, 8, 0, 0, 0, 0, 0, 0, 0, 9, 9, 9, 1, 1, 2, 2, 2, 2, 2, 2, 2, 2, 3, 3, 3, 3, 3, 3, 3, 3, 3, 3, 3, 3, 4, 4, 4, 4, 4, 4, 4, 4, 4, 4, 4, 4, 4, 4, 4, 5, 5, 5, 5, 5, 5, 5, 5, 5, 5, 6, 6, 6, 6, 6, 6, 6, 6, 6, 6, 6, 6, 6, 6, 6, 6, 6, 6, 6, 6, 6, 6, 10, 10]
def am_ow (j : Nat) : Nat := am_owL.getD j 99
def am_stL : List Bool := [false, false, false, false, false, false, false, false, false, false, false, false, false, false, false, true, false, false, false, false, false, false, false, false, false, false, false, false, false, false, false, false, false, false, false, false, false, false, false, false, false, false, false, false, false, false, false, false, false, false, false, false, false, false, true, false, false, true, false, false, false, false, false, false, false, false, false, true, true, true, false, false, false, false, false, false, false, false, false, true, false, false, false, false, false, false, false, false, false, false, false, false, false, false, false, false, false, false, false, false, false, false, false, false, false, false, false, false, false, false, false, false, false, false, false, false, false, false, false, false, false, false, false, false, false, false, false, false, false, false, false, false, false, false, false, false, false, false, false, true, true]
def am_st (j : Nat) : Bool := am_stL.getD j false
def am_naL : List Nat := [1, 3, 6, 4, 3, 5, 2, 1, 4, 4, 2, 3, 2, 1, 3, 2, 1, 1, 2, 2, 2, 3, 3, 4, 1, 1, 2, 2, 3, 6, 4, 3, 4, 2, 2, 1, 2, 2, 4, 4, 1, 1, 2, 1, 2, 2, 1, 5, 1, 2, 2, 1, 1, 3, 2, 4, 4, 2, 2, 3, 1, 2, 2, 3, 1, 2, 2, 4, 2, 4, 1, 3, 1, 2, 1, 1, 2, 2, 2, 2, 1, 1, 2, 1, 3, 2, 2, 3, 3, 2, 2, 1, 1, 1, 2, 1, 6, 2, 2, 2, 2, 2, 3, 3, 4, 2, 3, 1, 1, 1, 1, 2, 1, 2, 2, 2, 2, 3, 5, 2, 2, 2, 1, 1, 1, 3, 1, 4, 3, 3, 3, 1, 2, 2, 1, 1, 2, 3, 2, 7, 1]
def am_na (j : Nat) : Nat := am_naL.getD j 0
def am_inL : List Bool := [true, false, false, false, false, false, false, false, false, false, false, false, false, false, false, false, false, false, false, false, false, false, false, false, true, false, false, false, false, false, false, false, false, false, false, false, false, false, false, false, false, false, false, false, false, false, false, false, false, false, false, false, false, false, false, false, false, false, false, false, true, false, false, false, false, false, false, false, false, false, true, false, true, false, false, false, false, false, false, false, true, false, false, false, false, false, false, false, false, false, false, false, true, false, false, false, false, false, false, false, false, false, false, false, false, false, false, true, false, false, false, false, false, false, false, false, false, true, false, false, false, false, false, false, false, false, false, false, false, false, false, false, false, false, false, false, false, false, false, false, false]
def am_in (j : Nat) : Bool := am_inL.getD j false
def am_mcL : List Nat := [30, 0, 0, 0, 0, 0, 0, 0, 0, 0, 0, 0, 0, 0, 0, 0, 0, 0, 0, 0, 0, 0, 0, 0, 20, 0, 0, 0, 0, 0, 0, 0, 0, 0, 0, 0, 0, 0, 0, 0, 0, 0, 0, 0, 0, 0, 0, 0, 0, 0, 0, 0, 0, 0, 0, 0, 0, 0, 0, 0, 3, 0, 0, 0, 0, 0, 0, 0, 0, 0, 0, 0, 1, 0, 0, 0, 0, 0, 0, 0, 3, 0, 0, 0, 0, 0, 0, 0, 0, 0, 0, 0, 8, 0, 0, 0, 0, 0, 0, 0, 0, 0, 0, 0, 0, 0, 0, 1, 0, 0, 0, 0, 0, 0, 0, 0, 0, 9, 0, 0, 0, 0, 0, 0, 0, 0, 0, 0, 0, 0, 0, 0, 0, 0, 0, 0, 0, 0, 0, 2, 1078]
def am_mc (j : Nat) : Nat := am_mcL.getD j 0
def am_msL : List Nat := [14185, 0, 0, 0, 0, 0, 0, 0, 0, 0, 0, 0, 0, 0, 0, 0, 0, 0, 0, 0, 0, 0, 0, 0, 33659, 0, 0, 0, 0, 0, 0, 0, 0, 0, 0, 0, 0, 0, 0, 0, 0, 0, 0, 0, 0, 0, 0, 0, 0, 0, 0, 0, 0, 0, 0, 0, 0, 0, 0, 0, 7624, 0, 0, 0, 0, 0, 0, 0, 0, 0, 0, 0, 3, 0, 0, 0, 0, 0, 0, 0, 183, 0, 0, 0, 0, 0, 0, 0, 0, 0, 0, 0, 1089, 0, 0, 0, 0, 0, 0, 0, 0, 0, 0, 0, 0, 0, 0, 2400, 0, 0, 0, 0, 0, 0, 0, 0, 0, 8073, 0, 0, 0, 0, 0, 0, 0, 0, 0, 0, 0, 0, 0, 0, 0, 0, 0, 0, 0, 0, 0, 16, 56089]
def am_ms (j : Nat) : Nat := am_msL.getD j 0
def am_frL : List Nat := [3, 1, 1, 1, 2, 6, 2, 1, 3, 1, 6, 3, 3, 0, 1, 0, 5, 0, 3, 1, 1, 2, 2, 2, 1, 0, 0, 0, 0, 1, 1, 1, 1, 0, 0, 0, 0, 0, 1, 0, 2, 1, 2, 3, 0, 2, 0, 4, 1, 4, 0, 0, 0, 0, 0, 0, 1, 0, 1, 0, 1, 0, 0, 1, 1, 0, 0, 1, 0, 0, 1, 0, 1, 0, 0, 0, 0, 2, 1, 0, 1, 0, 0, 0, 0, 0, 0, 0, 0, 0, 1, 1, 1, 0, 0, 0, 0, 0, 0, 0, 0, 0, 0, 0, 0, 0, 0, 1, 0, 0, 0, 1, 0, 0, 0, 0, 2, 2, 1, 2, 4, 2, 4, 0, 0, 1, 3, 2, 3, 2, 1, 0, 1, 0, 1, 3, 2, 1, 1, 9, 10]
def am_fr (j : Nat) : Nat := am_frL.getD j 0
def am_lrL : List Nat := [65, 24, 27, 22, 43, 144, 44, 20, 68, 25, 144, 78, 66, 0, 22, 0, 123, 0, 71, 21, 21, 56, 42, 42, 23, 0, 0, 0, 0, 21, 21, 21, 21, 0, 0, 0, 0, 0, 23, 0, 46, 21, 46, 74, 0, 46, 0, 98, 23, 98, 0, 0, 0, 0, 0, 0, 39, 0, 21, 0, 23, 0, 0, 24, 25, 0, 0, 23, 0, 0, 23, 0, 23, 0, 0, 0, 0, 43, 21, 0, 23, 0, 0, 0, 0, 0, 0, 0, 0, 0, 23, 21, 23, 0, 0, 0, 0, 0, 0, 0, 0, 0, 0, 0, 0, 0, 0, 23, 0, 0, 0, 23, 0, 0, 0, 0, 44, 43, 21, 46, 100, 47, 91, 0, 0, 22, 76, 47, 72, 48, 21, 0, 23, 0, 23, 68, 44, 21, 21, 343, 372]
def am_lr (j : Nat) : Nat := am_lrL.getD j 0
def am_ret (j : Nat) : Option FieldType := match am_rt j with
  | 0 => some .int
  | 1 => some .boolean
  | 2 => some .long
  | _ => none
abbrev am_law : Nat := 140
abbrev am_lst : Nat := 139
def am_rfL (c : Nat) : List (Nat × Nat × Nat) := match c with
  | 0 => [(11, 0, 0), (15, 0, 1), (19, 0, 2), (22, 0, 3)]
  | 1 => [(9, 1, 0), (13, 1, 1)]
  | 2 => [(9, 2, 0), (13, 2, 1)]
  | 3 => [(9, 3, 0), (15, 3, 1), (18, 3, 2), (21, 3, 3)]
  | 4 => [(9, 4, 0), (15, 4, 1), (18, 4, 2), (22, 4, 3), (25, 4, 4), (28, 4, 5), (31, 4, 6), (34, 4, 7), (37, 4, 8)]
  | 5 => [(9, 5, 0), (15, 5, 1), (19, 5, 2), (23, 5, 3)]
  | 6 => [(12, 6, 2), (18, 6, 3), (22, 6, 4), (26, 6, 5), (29, 6, 6), (32, 6, 7), (35, 6, 8), (39, 6, 9), (42, 6, 10), (45, 6, 11), (48, 6, 0), (52, 6, 1)]
  | 7 => [(14, 7, 0), (21, 7, 1), (30, 7, 2), (37, 7, 3), (44, 7, 4), (51, 7, 5), (55, 7, 6), (58, 7, 7), (62, 7, 8), (66, 7, 9)]
  | 8 => [(7, 8, 2), (13, 8, 3), (16, 8, 4), (19, 8, 6), (23, 8, 7), (26, 8, 8), (29, 8, 9), (32, 8, 10), (35, 8, 11), (38, 8, 12), (41, 8, 13), (45, 8, 17), (49, 8, 19), (52, 8, 20), (55, 8, 21), (58, 8, 22), (61, 8, 24), (66, 8, 25), (70, 8, 26), (73, 8, 28), (76, 8, 31), (79, 8, 33), (82, 8, 0), (85, 8, 1), (88, 8, 5), (110, 8, 14), (113, 8, 15), (131, 8, 16), (145, 8, 18), (151, 8, 27), (154, 8, 30), (161, 8, 29), (173, 8, 23), (207, 8, 32), (214, 8, 35), (217, 8, 34)]
  | _ => []
def am_rf (c x : Nat) : Option (Nat × Nat) := (am_rfL c).lookup x
def am_rmL (c : Nat) : List (Nat × Nat × Nat) := match c with
  | 0 => [(3, 1, 0), (28, 6, 65), (32, 6, 66)]
  | 1 => [(3, 1, 0)]
  | 2 => [(1, 1, 0), (17, 6, 78), (21, 0, 79)]
  | 3 => [(3, 1, 0), (27, 4, 0), (33, 6, 89)]
  | 4 => [(3, 1, 0)]
  | 5 => [(3, 1, 0), (27, 2, 0), (33, 6, 111)]
  | 6 => [(3, 1, 0), (11, 7, 60), (56, 6, 97), (62, 6, 81), (68, 6, 90), (74, 6, 93), (75, 6, 106), (79, 6, 100), (84, 6, 101), (88, 6, 112), (93, 6, 114), (97, 6, 126), (100, 6, 124), (103, 6, 62), (108, 6, 128), (112, 6, 131), (115, 6, 109), (118, 6, 111), (121, 6, 125), (125, 6, 99), (128, 6, 132), (131, 6, 133), (134, 6, 134), (138, 6, 135), (141, 6, 89), (145, 6, 138), (148, 6, 87), (152, 6, 98), (155, 6, 102), (158, 6, 123), (161, 6, 61), (164, 6, 63), (168, 6, 64), (171, 6, 127), (175, 6, 129), (179, 6, 113), (182, 6, 130), (186, 5, 0), (192, 6, 137), (196, 6, 136)]
  | 7 => [(5, 1, 0), (13, 7, 80), (20, 7, 92), (27, 7, 117), (36, 7, 72), (43, 7, 70), (50, 7, 107), (72, 0, 15), (76, 6, 83), (80, 6, 84), (84, 6, 82), (92, 6, 95), (100, 6, 96), (103, 6, 94), (104, 6, 98), (108, 6, 99), (111, 6, 102), (115, 6, 103), (121, 6, 88), (125, 6, 91), (131, 6, 118), (135, 6, 16), (138, 6, 112), (141, 6, 17), (144, 6, 109), (147, 6, 111), (150, 6, 108), (153, 6, 110), (163, 6, 93), (166, 6, 22), (169, 6, 23), (173, 6, 104), (177, 6, 105), (181, 6, 18), (185, 6, 21), (189, 6, 115), (192, 6, 73), (195, 6, 75), (198, 6, 74), (199, 6, 76), (202, 6, 81), (203, 6, 77), (206, 6, 71), (209, 6, 119), (213, 6, 120), (217, 6, 122), (220, 6, 121), (224, 6, 116), (227, 6, 85), (231, 6, 86), (234, 6, 19), (237, 6, 20), (240, 0, 67), (246, 0, 68), (249, 0, 69)]
  | 8 => [(1, 1, 0), (95, 6, 26), (105, 6, 27), (116, 6, 37), (120, 6, 33), (124, 6, 36), (127, 6, 35), (134, 6, 34), (137, 6, 39), (141, 6, 38), (148, 6, 40), (157, 6, 45), (164, 6, 41), (167, 6, 42), (170, 6, 44), (178, 6, 43), (182, 6, 46), (185, 6, 48), (195, 0, 54), (199, 6, 55), (210, 0, 57)]
  | 9 => [(9, 3, 0)]
  | 10 => [(7, 6, 2), (15, 7, 0), (18, 7, 24), (21, 6, 1), (25, 6, 28), (26, 0, 139), (31, 6, 29), (32, 6, 25), (36, 6, 3), (40, 6, 30), (41, 6, 4), (45, 6, 31), (46, 6, 5), (50, 6, 47), (51, 6, 6), (55, 6, 50), (56, 6, 7), (60, 6, 51), (61, 6, 8), (65, 6, 56), (66, 6, 9), (70, 6, 32), (71, 6, 10), (75, 6, 49), (76, 6, 11), (80, 6, 53), (81, 6, 12), (84, 6, 58), (85, 6, 13), (88, 6, 52), (89, 6, 14), (92, 6, 59)]
  | _ => []
def am_rm (c x : Nat) : Nat × Nat := ((am_rmL c).lookup x).getD (9, 0)
def am_rnL (c : Nat) : List (Nat × Nat) := match c with
  | 6 => [(9, 0)]
  | 7 => [(11, 3), (18, 4), (25, 6), (34, 2), (41, 1), (48, 5)]
  | 10 => [(8, 7), (16, 8)]
  | _ => []
def am_rn (c x : Nat) : Option Nat := (am_rnL c).lookup x
def am_kLL (c : Nat) : List (Nat × Int64) := match c with
  | 0 => [(26, (2305843009213693951))]
  | 3 => [(25, (1000))]
  | 4 => [(41, (20000)), (43, (1000)), (45, (-1))]
  | 6 => [(72, (4096)), (82, (-1)), (106, (2305843009213693951))]
  | 7 => [(70, (10000)), (88, (100000)), (90, (1000)), (119, (1000000)), (129, (20)), (157, (-1)), (159, (20000)), (161, (2501))]
  | 8 => [(64, (-1)), (91, (-10000)), (93, (10000)), (99, (100000)), (101, (1000)), (103, (20000)), (108, (1000000)), (176, (20)), (189, (-2)), (191, (2)), (193, (-20000)), (203, (2501)), (205, (2500))]
  | 9 => [(7, (2))]
  | 10 => [(19, (4294967295))]
  | _ => []
def am_kL (c x : Nat) : Option Int64 := (am_kLL c).lookup x
/-- the links across the nest -/
def am_nst : List (String × Nat × MethodName × String) := [(am_cn 6, 11, am_y 60, "RouteGuide"), (am_cn 7, 13, am_y 80, "RouteGuide"), (am_cn 7, 20, am_y 92, "RouteGuide"), (am_cn 7, 36, am_y 72, "RouteGuide"), (am_cn 7, 43, am_y 70, "RouteGuide"), (am_cn 7, 50, am_y 107, "RouteGuide")]
def kd_0 : List (Nat × List Jvm.ClassFile.Instr) := [(0, [.aload_n 0, .invokespecial 5, .aload_n 0, .new 11, .dup, .invokespecial 13, .putfield 14, .aload_n 0, .new 18, .dup, .invokespecial 20, .putfield 21, .aload_n 0, .new 25, .dup, .aload_n 0, .getfield 14, .aload_n 0, .getfield 21, .invokespecial 27, .putfield 30, .aload_n 0, .new 34, .dup, .invokespecial 36, .putfield 37, .aload_n 0, .new 41, .dup, .invokespecial 43, .putfield 44, .aload_n 0, .new 48, .dup, .invokespecial 50, .putfield 51, .aload_n 0, .new 48, .dup, .invokespecial 50, .putfield 55, .aload_n 0, .iconst (0), .putfield 58, .aload_n 0, .lconst 0, .putfield 62, .aload_n 0, .iconst (0), .putfield 66, .return_])]
def kd_1 : List (Nat × List Jvm.ClassFile.Instr) := [(0, [.lload_n 1, .ldc2_w 70, .invokestatic 72, .ifCond .eq (13)]),
  (10, [.lload_n 3, .ldc2_w 70, .invokestatic 72, .ifCond .ne (6)]),
  (20, [.bipush (-2), .ireturn]),
  (23, [.aload_n 0, .getfield 14, .invokevirtual 76, .ifCond .eq (6)]),
  (33, [.bipush (-4), .ireturn]),
  (36, [.aload_n 0, .getfield 14, .lload_n 1, .lload_n 3, .invokevirtual 80, .ireturn])]
def kd_2 : List (Nat × List Jvm.ClassFile.Instr) := [(0, [.aload_n 0, .getfield 14, .iload_n 1, .invokevirtual 84, .ifCond .eq (14)]),
  (11, [.aload_n 0, .getfield 14, .iload_n 2, .invokevirtual 84, .ifCond .ne (5)]),
  (22, [.iconst (-1), .ireturn]),
  (24, [.iload_n 1, .iload_n 2, .if_icmp .eq (17)]),
  (29, [.lload_n 3, .lconst 1, .lcmp, .ifCond .lt (11)]),
  (35, [.lload_n 3, .ldc2_w 88, .lcmp, .ifCond .le (6)]),
  (43, [.bipush (-2), .ireturn]),
  (46, [.lload 5, .lconst 0, .lcmp, .ifCond .lt (23)]),
  (53, [.lload 5, .ldc2_w 90, .lcmp, .ifCond .gt (14)]),
  (62, [.iload 7, .ifCond .lt (9)]),
  (67, [.iload 7, .iconst (3), .if_icmp .le (6)]),
  (73, [.bipush (-2), .ireturn]),
  (76, [.aload_n 0, .getfield 21, .invokevirtual 92, .ifCond .eq (6)]),
  (86, [.bipush (-4), .ireturn]),
  (89, [.lload 5, .lconst 0, .lcmp, .ifCond .ne (13)]),
  (96, [.new 93, .dup, .ldc 95, .invokespecial 97, .athrow]),
  (106, [.aload_n 0, .getfield 21, .iload_n 1, .iload_n 2, .lload_n 3, .lload 5, .iload 7, .invokevirtual 100, .ireturn])]
def kd_3 : List (Nat × List Jvm.ClassFile.Instr) := [(0, [.aload_n 0, .getfield 21, .iload_n 1, .invokevirtual 103, .ifCond .eq (14)]),
  (11, [.aload_n 0, .getfield 21, .iload_n 2, .invokevirtual 103, .ifCond .ne (5)]),
  (22, [.iconst (-1), .ireturn]),
  (24, [.aload_n 0, .getfield 21, .iload_n 2, .invokevirtual 104, .aload_n 0, .getfield 21, .iload_n 1, .invokevirtual 108, .if_icmp .eq (6)]),
  (43, [.bipush (-2), .ireturn]),
  (46, [.aload_n 0, .getfield 21, .iload_n 1, .iload_n 2, .invokevirtual 111, .iload_n 3, .if_icmp .ne (5)]),
  (59, [.iconst (0), .ireturn]),
  (61, [.aload_n 0, .getfield 21, .iload_n 1, .iload_n 2, .invokevirtual 115, .iconst (1), .ireturn])]
def kd_4 : List (Nat × List Jvm.ClassFile.Instr) := [(0, [.aload_n 0, .getfield 14, .iload_n 1, .invokevirtual 84, .ifCond .ne (5)]),
  (11, [.iconst (-1), .ireturn]),
  (13, [.lload_n 2, .lconst 0, .lcmp, .ifCond .lt (11)]),
  (19, [.lload_n 2, .ldc2_w 119, .lcmp, .ifCond .le (6)]),
  (27, [.bipush (-2), .ireturn]),
  (30, [.aload_n 0, .getfield 14, .iload_n 1, .lload_n 2, .invokevirtual 121, .aload_n 0, .getfield 14, .invokevirtual 125, .ireturn])]
def kd_5 : List (Nat × List Jvm.ClassFile.Instr) := [(0, [.aload_n 0, .getfield 14, .iload_n 1, .invokevirtual 84, .ifCond .eq (23)]),
  (11, [.aload_n 0, .getfield 14, .iload_n 2, .invokevirtual 84, .ifCond .eq (12)]),
  (22, [.iload_n 3, .ifCond .lt (8)]),
  (26, [.iload_n 3, .iconst (2), .if_icmp .le (6)]),
  (31, [.bipush (-2), .ireturn]),
  (34, [.iload_n 3, .iconst (2), .if_icmp .ne (22)]),
  (39, [.lload 4, .lconst 0, .lcmp, .ifCond .lt (12)]),
  (46, [.lload 4, .ldc2_w 129, .lcmp, .ifCond .le (6)]),
  (55, [.bipush (-2), .ireturn]),
  (58, [.aload_n 0, .getfield 30, .iload_n 1, .iload_n 2, .iload_n 3, .iload_n 3, .iconst (2), .if_icmp .ne (9)]),
  (70, [.lload 4, .l2i, .goto (4)]),
  (76, [.iconst (0)]),
  (77, [.invokevirtual 131, .aload_n 0, .iconst (1), .putfield 58, .aload_n 0, .invokevirtual 135, .ifCond .ne (12)]),
  (92, [.aload_n 0, .getfield 51, .invokevirtual 138, .iconst (-1), .ireturn]),
  (101, [.aload_n 0, .invokevirtual 141, .aload_n 0, .getfield 51, .invokevirtual 144, .ireturn])]
def kd_6 : List (Nat × List Jvm.ClassFile.Instr) := [(0, [.aload_n 0, .getfield 51, .iload_n 1, .invokevirtual 147, .ireturn])]
def kd_7 : List (Nat × List Jvm.ClassFile.Instr) := [(0, [.aload_n 0, .getfield 51, .invokevirtual 150, .ifCond .eq (13)]),
  (10, [.aload_n 0, .getfield 51, .invokevirtual 153, .goto (6)]),
  (20, [.ldc2_w 157]),
  (23, [.lreturn])]
def kd_8 : List (Nat × List Jvm.ClassFile.Instr) := [(0, [.lload_n 1, .ldc2_w 159, .invokestatic 72, .ifCond .eq (13)]),
  (10, [.lload_n 3, .ldc2_w 159, .invokestatic 72, .ifCond .ne (6)]),
  (20, [.bipush (-2), .ireturn]),
  (23, [.iload 5, .iconst (-1), .if_icmp .lt (10)]),
  (29, [.iload 5, .bipush (7), .if_icmp .le (6)]),
  (36, [.bipush (-2), .ireturn]),
  (39, [.iconst (0), .istore 6, .ldc2_w 161, .lstore 7, .iconst (1), .istore 9]),
  (50, [.iload 9, .aload_n 0, .getfield 21, .invokevirtual 163, .if_icmp .gt (46)]),
  (62, [.aload_n 0, .iload 9, .iload 5, .invokevirtual 166, .ifCond .eq (29)]),
  (73, [.aload_n 0, .iload 9, .lload_n 1, .lload_n 3, .invokevirtual 169, .lstore 10, .lload 10, .lload 7, .lcmp, .ifCond .ge (11)]),
  (91, [.lload 10, .lstore 7, .iload 9, .istore 6]),
  (99, [.iinc 9 (1), .goto (-52)]),
  (105, [.iload 6, .ireturn])]
def kd_9 : List (Nat × List Jvm.ClassFile.Instr) := [(0, [.aload_n 0, .getfield 21, .iload_n 1, .invokevirtual 103, .ifCond .ne (5)]),
  (11, [.iconst (-1), .ireturn]),
  (13, [.lload_n 2, .lconst 0, .lcmp, .ifCond .lt (18)]),
  (19, [.lload_n 2, .ldc2_w 90, .lcmp, .ifCond .gt (10)]),
  (27, [.lload 4, .lconst 0, .lcmp, .ifCond .ge (6)]),
  (34, [.bipush (-2), .ireturn]),
  (37, [.aload_n 0, .getfield 21, .iload_n 1, .lload_n 2, .lload 4, .invokevirtual 173, .aload_n 0, .getfield 21, .aload_n 0, .getfield 62, .lconst 1, .ladd, .invokevirtual 177, .ireturn])]
def kd_10 : List (Nat × List Jvm.ClassFile.Instr) := [(0, [.lload_n 1, .lconst 0, .lcmp, .ifCond .ge (6)]),
  (6, [.bipush (-2), .ireturn]),
  (9, [.aload_n 0, .getfield 58, .ifCond .ne (6)]),
  (16, [.bipush (-3), .ireturn]),
  (19, [.aload_n 0, .invokevirtual 135, .ifCond .eq (11)]),
  (26, [.aload_n 0, .lload_n 1, .invokevirtual 181, .ifCond .ne (5)]),
  (34, [.iconst (0), .ireturn]),
  (36, [.aload_n 0, .invokevirtual 141, .iconst (1), .ireturn])]
def kd_11 : List (Nat × List Jvm.ClassFile.Instr) := [(0, [.iload_n 1, .ifCond .lt (16)]),
  (4, [.iload_n 1, .aload_n 0, .getfield 51, .invokevirtual 144, .iconst (1), .isub, .if_icmp .lt (5)]),
  (17, [.iconst (-1), .ireturn]),
  (19, [.iload_n 2, .tableswitch (79) (0) (2) #[(28), (51), (62)]]),
  (48, [.aload_n 0, .aload_n 0, .getfield 51, .iload_n 1, .invokevirtual 147, .aload_n 0, .getfield 51, .iload_n 1, .iconst (1), .iadd, .invokevirtual 147, .invokevirtual 185, .ireturn]),
  (71, [.aload_n 0, .getfield 51, .iload_n 1, .iconst (1), .iadd, .invokevirtual 147, .ireturn]),
  (82, [.aload_n 0, .getfield 51, .iload_n 1, .invokevirtual 189, .ifCond .eq (7)]),
  (93, [.iconst (1), .goto (4)]),
  (97, [.iconst (0)]),
  (98, [.ireturn]),
  (99, [.bipush (-2), .ireturn])]
def kd_12 : List (Nat × List Jvm.ClassFile.Instr) := [(0, [.iload_n 1, .ifCond .eq (17)]),
  (4, [.aload_n 0, .getfield 37, .iload_n 1, .invokevirtual 192, .ifCond .ne (6)]),
  (15, [.bipush (-2), .ireturn]),
  (18, [.iload_n 1, .ifCond .ne (13)]),
  (22, [.aload_n 0, .getfield 37, .invokevirtual 195, .goto (24)]),
  (32, [.aload_n 0, .getfield 37, .invokevirtual 198, .ifCond .eq (6)]),
  (42, [.bipush (-3), .ireturn]),
  (45, [.aload_n 0, .getfield 37, .iload_n 1, .invokevirtual 199]),
  (53, [.aload_n 0, .getfield 37, .aload_n 0, .getfield 14, .invokevirtual 202, .invokevirtual 203, .ireturn])]
def kd_13 : List (Nat × List Jvm.ClassFile.Instr) := [(0, [.aload_n 0, .getfield 66, .ireturn])]
def kd_14 : List (Nat × List Jvm.ClassFile.Instr) := [(0, [.iload_n 2, .ifCond .lt (14)]),
  (4, [.iload_n 2, .bipush (8), .if_icmp .ge (8)]),
  (10, [.iload_n 1, .iconst (1), .if_icmp .ge (6)]),
  (15, [.bipush (-2), .ireturn]),
  (18, [.aload_n 0, .getfield 44, .iload_n 1, .iload_n 2, .invokevirtual 206, .ifCond .eq (7)]),
  (30, [.iconst (1), .goto (4)]),
  (34, [.iconst (0)]),
  (35, [.ireturn])]
def kd_15 : List (Nat × List Jvm.ClassFile.Instr) := [(0, [.lload_n 0, .lload_n 2, .lneg, .lcmp, .ifCond .lt (13)]),
  (7, [.lload_n 0, .lload_n 2, .lcmp, .ifCond .gt (7)]),
  (13, [.iconst (1), .goto (4)]),
  (17, [.iconst (0)]),
  (18, [.ireturn])]
def kd_16 : List (Nat × List Jvm.ClassFile.Instr) := [(0, [.aload_n 0, .dup, .getfield 62, .lconst 1, .ladd, .putfield 62, .aload_n 0, .getfield 30, .aload_n 0, .getfield 62, .invokevirtual 209, .aload_n 0, .getfield 30, .aload_n 0, .getfield 55, .invokevirtual 213, .istore_n 1, .aload_n 0, .iload_n 1, .ifCond .eq (7)]),
  (38, [.iconst (0), .goto (10)]),
  (42, [.aload_n 0, .getfield 30, .invokevirtual 217]),
  (49, [.putfield 66, .iload_n 1, .ireturn])]
def kd_17 : List (Nat × List Jvm.ClassFile.Instr) := [(0, [.aload_n 0, .getfield 51, .astore_n 1, .aload_n 0, .aload_n 0, .getfield 55, .putfield 51, .aload_n 0, .aload_n 1, .putfield 55, .return_])]
def kd_18 : List (Nat × List Jvm.ClassFile.Instr) := [(0, [.aload_n 0, .getfield 51, .invokevirtual 150, .ifCond .ne (5)]),
  (10, [.iconst (1), .ireturn]),
  (12, [.aload_n 0, .getfield 30, .aload_n 0, .getfield 51, .invokevirtual 220, .lstore_n 3, .lload_n 3, .lconst 0, .lcmp, .ifCond .ge (5)]),
  (30, [.iconst (1), .ireturn]),
  (32, [.lload_n 3, .aload_n 0, .getfield 55, .invokevirtual 153, .lsub, .lload_n 1, .lcmp, .ifCond .lt (21)]),
  (46, [.aload_n 0, .getfield 51, .aload_n 0, .getfield 55, .invokevirtual 224, .ifCond .ne (7)]),
  (60, [.iconst (1), .goto (4)]),
  (64, [.iconst (0)]),
  (65, [.ireturn])]
def kd_19 : List (Nat × List Jvm.ClassFile.Instr) := [(0, [.aload_n 0, .getfield 14, .aload_n 0, .getfield 21, .iload_n 1, .invokevirtual 108, .invokevirtual 227, .aload_n 0, .getfield 14, .aload_n 0, .getfield 21, .iload_n 1, .invokevirtual 104, .invokevirtual 227, .lsub, .lreturn])]
def kd_20 : List (Nat × List Jvm.ClassFile.Instr) := [(0, [.aload_n 0, .getfield 14, .aload_n 0, .getfield 21, .iload_n 1, .invokevirtual 108, .invokevirtual 231, .aload_n 0, .getfield 14, .aload_n 0, .getfield 21, .iload_n 1, .invokevirtual 104, .invokevirtual 231, .lsub, .lreturn])]
def kd_21 : List (Nat × List Jvm.ClassFile.Instr) := [(0, [.aload_n 0, .iload_n 1, .invokevirtual 234, .aload_n 0, .iload_n 1, .invokevirtual 237, .aload_n 0, .iload_n 2, .invokevirtual 234, .aload_n 0, .iload_n 2, .invokevirtual 237, .invokestatic 240, .ireturn])]
def kd_22 : List (Nat × List Jvm.ClassFile.Instr) := [(0, [.iload_n 2, .ifCond .ge (5)]),
  (4, [.iconst (1), .ireturn]),
  (6, [.aload_n 0, .iload_n 1, .invokevirtual 234, .aload_n 0, .iload_n 1, .invokevirtual 237, .invokestatic 246, .istore_n 3, .iload_n 3, .ifCond .ge (5)]),
  (24, [.iconst (0), .ireturn]),
  (26, [.iload_n 3, .iload_n 2, .isub, .bipush (7), .iand, .istore 4, .iload 4, .iconst (1), .if_icmp .le (10)]),
  (40, [.iload 4, .bipush (7), .if_icmp .ne (7)]),
  (47, [.iconst (1), .goto (4)]),
  (51, [.iconst (0)]),
  (52, [.ireturn])]
def kd_23 : List (Nat × List Jvm.ClassFile.Instr) := [(0, [.aload_n 0, .getfield 21, .iload_n 1, .invokevirtual 104, .istore 6, .lload_n 2, .aload_n 0, .getfield 14, .iload 6, .invokevirtual 227, .lsub, .lload 4, .aload_n 0, .getfield 14, .iload 6, .invokevirtual 231, .lsub, .aload_n 0, .iload_n 1, .invokevirtual 234, .aload_n 0, .iload_n 1, .invokevirtual 237, .invokestatic 249, .lreturn])]
def kd_24 : List (Nat × List Jvm.ClassFile.Instr) := [(0, [.aload_n 0, .invokespecial 1, .aload_n 0, .bipush (61), .newarray .long, .putfield 7, .aload_n 0, .bipush (61), .newarray .long, .putfield 13, .aload_n 0, .bipush (61), .newarray .long, .putfield 16, .aload_n 0, .bipush (121), .newarray .int, .putfield 19, .aload_n 0, .bipush (121), .newarray .int, .putfield 23, .aload_n 0, .bipush (121), .newarray .long, .putfield 26, .aload_n 0, .bipush (121), .newarray .long, .putfield 29, .aload_n 0, .bipush (121), .newarray .int, .putfield 32, .aload_n 0, .bipush (121), .newarray .long, .putfield 35, .aload_n 0, .bipush (121), .newarray .long, .putfield 38, .aload_n 0, .sipush (14641), .newarray .boolean, .putfield 41, .aload_n 0, .iconst (-1), .putfield 45, .aload_n 0, .sipush (2541), .newarray .long, .putfield 49, .aload_n 0, .sipush (2541), .newarray .int, .putfield 52, .aload_n 0, .sipush (2541), .newarray .boolean, .putfield 55, .aload_n 0, .sipush (2541), .newarray .boolean, .putfield 58, .aload_n 0, .sipush (2600), .newarray .int, .putfield 61, .aload_n 0, .ldc2_w 64, .putfield 66, .aload_n 0, .sipush (2600), .newarray .boolean, .putfield 70, .aload_n 0, .sipush (2600), .newarray .int, .putfield 73, .aload_n 0, .bipush (21), .newarray .long, .putfield 76, .aload_n 0, .iconst (3), .newarray .int, .putfield 79, .return_])]
def kd_25 : List (Nat × List Jvm.ClassFile.Instr) := [(0, [.aload_n 0, .getfield 82, .ireturn])]
def kd_26 : List (Nat × List Jvm.ClassFile.Instr) := [(0, [.iload_n 1, .iconst (1), .if_icmp .lt (11)]),
  (5, [.iload_n 1, .aload_n 0, .getfield 85, .if_icmp .le (7)]),
  (13, [.iconst (1), .goto (4)]),
  (17, [.iconst (0)]),
  (18, [.ireturn])]
def kd_27 : List (Nat × List Jvm.ClassFile.Instr) := [(0, [.iload_n 1, .iconst (1), .if_icmp .lt (11)]),
  (5, [.iload_n 1, .aload_n 0, .getfield 88, .if_icmp .le (7)]),
  (13, [.iconst (1), .goto (4)]),
  (17, [.iconst (0)]),
  (18, [.ireturn])]
def kd_28 : List (Nat × List Jvm.ClassFile.Instr) := [(0, [.aload_n 0, .iconst (0), .putfield 82, .lload_n 1, .ldc2_w 91, .lcmp, .ifCond .lt (27)]),
  (13, [.lload_n 1, .ldc2_w 93, .lcmp, .ifCond .gt (19)]),
  (21, [.lload_n 3, .ldc2_w 91, .lcmp, .ifCond .lt (11)]),
  (29, [.lload_n 3, .ldc2_w 93, .lcmp, .ifCond .le (6)]),
  (37, [.bipush (-2), .ireturn]),
  (40, [.aload_n 0, .getfield 85, .bipush (60), .if_icmp .ne (6)]),
  (49, [.bipush (-4), .ireturn]),
  (52, [.aload_n 0, .dup, .getfield 85, .iconst (1), .iadd, .putfield 85, .aload_n 0, .getfield 7, .aload_n 0, .getfield 85, .lload_n 1, .lastore, .aload_n 0, .getfield 13, .aload_n 0, .getfield 85, .lload_n 3, .lastore, .aload_n 0, .getfield 85, .ireturn])]
def kd_29 : List (Nat × List Jvm.ClassFile.Instr) := [(0, [.aload_n 0, .iconst (0), .putfield 82, .aload_n 0, .iload_n 1, .invokevirtual 95, .ifCond .ne (11)]),
  (13, [.aload_n 0, .iload_n 2, .invokevirtual 95, .ifCond .eq (5)]),
  (21, [.iconst (-1), .ireturn]),
  (23, [.iload_n 1, .iload_n 2, .if_icmp .eq (44)]),
  (28, [.lload_n 3, .lconst 1, .lcmp, .ifCond .lt (38)]),
  (34, [.lload_n 3, .ldc2_w 99, .lcmp, .ifCond .gt (30)]),
  (42, [.lload 5, .lconst 0, .lcmp, .ifCond .lt (23)]),
  (49, [.lload 5, .ldc2_w 101, .lcmp, .ifCond .gt (14)]),
  (58, [.iload 7, .ifCond .lt (9)]),
  (63, [.iload 7, .iconst (3), .if_icmp .le (6)]),
  (69, [.bipush (-2), .ireturn]),
  (72, [.aload_n 0, .getfield 88, .bipush (120), .if_icmp .ne (6)]),
  (81, [.bipush (-4), .ireturn]),
  (84, [.aload_n 0, .lload 5, .lconst 0, .lcmp, .ifCond .ne (7)]),
  (92, [.iconst (1), .goto (4)]),
  (96, [.iconst (0)]),
  (97, [.putfield 82, .aload_n 0, .getfield 82, .ifCond .le (5)]),
  (107, [.iconst (0), .ireturn]),
  (109, [.aload_n 0, .dup, .getfield 88, .iconst (1), .iadd, .putfield 88, .aload_n 0, .getfield 19, .aload_n 0, .getfield 88, .iload_n 1, .iastore, .aload_n 0, .getfield 23, .aload_n 0, .getfield 88, .iload_n 2, .iastore, .aload_n 0, .getfield 26, .aload_n 0, .getfield 88, .lload_n 3, .lastore, .aload_n 0, .getfield 29, .aload_n 0, .getfield 88, .lload 5, .lastore, .aload_n 0, .getfield 32, .aload_n 0, .getfield 88, .lconst 1, .lload_n 3, .lload_n 3, .iload 7, .i2l, .lmul, .ladd, .ldc2_w 103, .ldiv, .ladd, .l2i, .iastore, .aload_n 0, .getfield 38, .aload_n 0, .getfield 88, .ldc2_w 64, .lastore, .aload_n 0, .getfield 88, .ireturn])]
def kd_30 : List (Nat × List Jvm.ClassFile.Instr) := [(0, [.aload_n 0, .iconst (0), .putfield 82, .aload_n 0, .iload_n 1, .invokevirtual 105, .ifCond .ne (11)]),
  (13, [.aload_n 0, .iload_n 2, .invokevirtual 105, .ifCond .eq (5)]),
  (21, [.iconst (-1), .ireturn]),
  (23, [.aload_n 0, .getfield 23, .iload_n 1, .iaload, .aload_n 0, .getfield 19, .iload_n 2, .iaload, .if_icmp .eq (6)]),
  (38, [.bipush (-2), .ireturn]),
  (41, [.aload_n 0, .getfield 41, .bipush (121), .iload_n 1, .imul, .iload_n 2, .iadd, .baload, .istore 4, .aload_n 0, .getfield 41, .bipush (121), .iload_n 1, .imul, .iload_n 2, .iadd, .iload_n 3, .bastore, .iload 4, .iload_n 3, .if_icmp .ne (7)]),
  (72, [.iconst (0), .goto (4)]),
  (76, [.iconst (1)]),
  (77, [.ireturn])]
def kd_31 : List (Nat × List Jvm.ClassFile.Instr) := [(0, [.aload_n 0, .iconst (0), .putfield 82, .aload_n 0, .iload_n 1, .invokevirtual 95, .ifCond .eq (5)]),
  (13, [.iconst (-1), .ireturn]),
  (15, [.lload_n 2, .lconst 0, .lcmp, .ifCond .lt (11)]),
  (21, [.lload_n 2, .ldc2_w 108, .lcmp, .ifCond .le (6)]),
  (29, [.bipush (-2), .ireturn]),
  (32, [.aload_n 0, .getfield 16, .iload_n 1, .lload_n 2, .lastore, .iconst (0), .istore 4, .iconst (1), .istore 5]),
  (45, [.iload 5, .aload_n 0, .getfield 85, .if_icmp .gt (32)]),
  (54, [.aload_n 0, .getfield 16, .iload 5, .laload, .lconst 0, .lcmp, .ifCond .le (10)]),
  (66, [.iload 4, .iconst (1), .iadd, .goto (5)]),
  (73, [.iload 4]),
  (75, [.istore 4, .iinc 5 (1), .goto (-35)]),
  (83, [.iload 4, .ireturn])]
def kd_32 : List (Nat × List Jvm.ClassFile.Instr) := [(0, [.aload_n 0, .iconst (0), .putfield 82, .aload_n 0, .iload_n 1, .invokevirtual 105, .ifCond .eq (5)]),
  (13, [.iconst (-1), .ireturn]),
  (15, [.lload_n 2, .lconst 0, .lcmp, .ifCond .lt (18)]),
  (21, [.lload_n 2, .ldc2_w 101, .lcmp, .ifCond .gt (10)]),
  (29, [.lload 4, .lconst 0, .lcmp, .ifCond .ge (6)]),
  (36, [.bipush (-2), .ireturn]),
  (39, [.aload_n 0, .getfield 35, .iload_n 1, .lload_n 2, .lastore, .aload_n 0, .getfield 38, .iload_n 1, .lload 4, .lastore, .iconst (0), .istore 6, .iconst (1), .istore 7]),
  (60, [.iload 7, .aload_n 0, .getfield 88, .if_icmp .gt (35)]),
  (69, [.aload_n 0, .getfield 38, .iload 7, .laload, .aload_n 0, .getfield 110, .lcmp, .ifCond .le (10)]),
  (84, [.iload 6, .iconst (1), .iadd, .goto (5)]),
  (91, [.iload 6]),
  (93, [.istore 6, .iinc 7 (1), .goto (-38)]),
  (101, [.iload 6, .ireturn])]
def kd_33 : List (Nat × List Jvm.ClassFile.Instr) := [(0, [.aload_n 0, .getfield 38, .iload_n 1, .laload, .aload_n 0, .getfield 110, .lcmp, .ifCond .lt (12)]),
  (14, [.aload_n 0, .getfield 35, .iload_n 1, .laload, .goto (9)]),
  (23, [.aload_n 0, .getfield 29, .iload_n 1, .laload]),
  (29, [.lstore_n 2, .lload_n 2, .lconst 0, .lcmp, .ifCond .ne (7)]),
  (36, [.ldc2_w 64, .lreturn]),
  (40, [.aload_n 0, .getfield 45, .iconst (1), .if_icmp .ne (12)]),
  (48, [.aload_n 0, .getfield 26, .iload_n 1, .laload, .goto (15)]),
  (57, [.aload_n 0, .getfield 26, .iload_n 1, .laload, .ldc2_w 101, .lmul, .lload_n 2, .ldiv]),
  (69, [.lreturn])]
def kd_34 : List (Nat × List Jvm.ClassFile.Instr) := [(0, [.aload_n 0, .getfield 45, .iconst (2), .if_icmp .ne (14)]),
  (8, [.aload_n 0, .getfield 16, .iload_n 1, .laload, .lconst 0, .lcmp, .ifCond .ne (7)]),
  (19, [.ldc2_w 64, .lreturn]),
  (23, [.aload_n 0, .getfield 16, .iload_n 1, .laload, .ldc2_w 101, .lcmp, .ifCond .le (7)]),
  (36, [.lconst 1, .goto (13)]),
  (40, [.ldc2_w 101, .aload_n 0, .getfield 16, .iload_n 1, .laload, .ldiv]),
  (50, [.lreturn])]
def kd_35 : List (Nat × List Jvm.ClassFile.Instr) := [(0, [.aload_n 0, .getfield 45, .iconst (2), .if_icmp .ne (8)]),
  (8, [.bipush (20), .goto (4)]),
  (13, [.iconst (0)]),
  (14, [.ireturn])]
def kd_36 : List (Nat × List Jvm.ClassFile.Instr) := [(0, [.aload_n 0, .getfield 45, .iconst (2), .if_icmp .ne (12)]),
  (8, [.aload_n 0, .getfield 32, .iload_n 1, .iaload, .goto (4)]),
  (17, [.iconst (0)]),
  (18, [.ireturn])]
def kd_37 : List (Nat × List Jvm.ClassFile.Instr) := [(0, [.iload_n 1, .ifCond .ne (10)]),
  (4, [.aload_n 0, .getfield 113, .goto (9)]),
  (11, [.aload_n 0, .getfield 23, .iload_n 1, .iaload]),
  (17, [.ireturn])]
def kd_38 : List (Nat × List Jvm.ClassFile.Instr) := [(0, [.aload_n 0, .getfield 19, .iload_n 3, .iaload, .aload_n 0, .iload_n 1, .invokevirtual 116, .if_icmp .ne (44)]),
  (14, [.aload_n 0, .iload_n 3, .invokevirtual 120, .lconst 0, .lcmp, .ifCond .lt (34)]),
  (24, [.iload_n 2, .aload_n 0, .iload_n 3, .invokevirtual 124, .if_icmp .lt (25)]),
  (33, [.iload_n 1, .ifCond .eq (17)]),
  (37, [.aload_n 0, .getfield 41, .bipush (121), .iload_n 1, .imul, .iload_n 3, .iadd, .baload, .ifCond .ne (7)]),
  (51, [.iconst (1), .goto (4)]),
  (55, [.iconst (0)]),
  (56, [.ireturn])]
def kd_39 : List (Nat × List Jvm.ClassFile.Instr) := [(0, [.aload_n 0, .getfield 49, .iload_n 1, .laload, .lconst 0, .lcmp, .ifCond .lt (38)]),
  (11, [.aload_n 0, .getfield 49, .iload_n 1, .laload, .lload_n 2, .lcmp, .ifCond .lt (25)]),
  (22, [.aload_n 0, .getfield 49, .iload_n 1, .laload, .lload_n 2, .lcmp, .ifCond .ne (16)]),
  (33, [.aload_n 0, .getfield 52, .iload_n 1, .iaload, .iload 4, .if_icmp .gt (5)]),
  (44, [.iconst (0), .ireturn]),
  (46, [.aload_n 0, .getfield 49, .iload_n 1, .lload_n 2, .lastore, .aload_n 0, .getfield 52, .iload_n 1, .iload 4, .iastore, .iconst (1), .ireturn])]
def kd_40 : List (Nat × List Jvm.ClassFile.Instr) := [(0, [.iconst (0), .istore_n 1]),
  (2, [.iload_n 1, .sipush (2541), .if_icmp .ge (76)]),
  (9, [.iload_n 1, .bipush (21), .idiv, .aload_n 0, .getfield 88, .if_icmp .gt (33)]),
  (20, [.iload_n 1, .bipush (21), .irem, .aload_n 0, .invokevirtual 127, .if_icmp .gt (22)]),
  (31, [.aload_n 0, .iload_n 1, .bipush (21), .idiv, .invokevirtual 116, .aload_n 0, .getfield 131, .if_icmp .ne (7)]),
  (46, [.iconst (1), .goto (4)]),
  (50, [.iconst (0)]),
  (51, [.istore_n 2, .aload_n 0, .getfield 49, .iload_n 1, .iload_n 2, .ifCond .eq (7)]),
  (61, [.lconst 0, .goto (6)]),
  (65, [.ldc2_w 64]),
  (68, [.lastore, .aload_n 0, .getfield 52, .iload_n 1, .iconst (0), .iastore, .iinc 1 (1), .goto (-77)]),
  (82, [.iconst (1), .istore_n 1]),
  (84, [.iload_n 1, .ifCond .eq (239)]),
  (88, [.iconst (0), .istore_n 1, .aload_n 0, .getfield 88, .istore_n 2]),
  (95, [.iload_n 2, .ifCond .lt (225)]),
  (99, [.iconst (0), .istore_n 3]),
  (101, [.iload_n 3, .aload_n 0, .invokevirtual 127, .if_icmp .gt (209)]),
  (109, [.bipush (21), .iload_n 2, .imul, .iload_n 3, .iadd, .istore 4, .aload_n 0, .aload_n 0, .iload_n 2, .invokevirtual 116, .invokevirtual 134, .lstore 5, .lload 5, .lconst 0, .lcmp, .ifCond .lt (63)]),
  (135, [.iload_n 3, .bipush (20), .if_icmp .ge (57)]),
  (141, [.aload_n 0, .getfield 49, .iload 4, .iconst (1), .iadd, .laload, .lconst 0, .lcmp, .ifCond .lt (43)]),
  (155, [.aload_n 0, .iload 4, .aload_n 0, .getfield 49, .iload 4, .iconst (1), .iadd, .laload, .lload 5, .ladd, .aload_n 0, .getfield 52, .iload 4, .iconst (1), .iadd, .iaload, .invokevirtual 137, .ifCond .ne (7)]),
  (185, [.iload_n 1, .ifCond .eq (7)]),
  (189, [.iconst (1), .goto (4)]),
  (193, [.iconst (0)]),
  (194, [.istore_n 1]),
  (195, [.iconst (1), .istore 7]),
  (198, [.iload 7, .aload_n 0, .getfield 88, .if_icmp .gt (105)]),
  (207, [.bipush (21), .iload 7, .imul, .iload_n 3, .iadd, .aload_n 0, .iload 7, .invokevirtual 124, .isub, .istore 8, .aload_n 0, .getfield 19, .iload 7, .iaload, .aload_n 0, .iload_n 2, .invokevirtual 116, .if_icmp .ne (68)]),
  (238, [.aload_n 0, .iload_n 2, .iload_n 3, .iload 7, .invokevirtual 141, .ifCond .eq (57)]),
  (249, [.aload_n 0, .getfield 49, .iload 8, .laload, .lconst 0, .lcmp, .ifCond .lt (45)]),
  (261, [.aload_n 0, .iload 4, .aload_n 0, .getfield 49, .iload 8, .laload, .aload_n 0, .iload 7, .invokevirtual 120, .ladd, .aload_n 0, .getfield 52, .iload 8, .iaload, .iconst (1), .iadd, .invokevirtual 137, .ifCond .ne (7)]),
  (293, [.iload_n 1, .ifCond .eq (7)]),
  (297, [.iconst (1), .goto (4)]),
  (301, [.iconst (0)]),
  (302, [.istore_n 1]),
  (303, [.iinc 7 (1), .goto (-108)]),
  (309, [.iinc 3 (1), .goto (-211)]),
  (315, [.iinc 2 (-1), .goto (-223)]),
  (321, [.goto (-237)]),
  (324, [.return_])]
def kd_41 : List (Nat × List Jvm.ClassFile.Instr) := [(0, [.iconst (0), .istore_n 1]),
  (2, [.iload_n 1, .aload_n 0, .getfield 88, .if_icmp .gt (127)]),
  (10, [.aload_n 0, .aload_n 0, .iload_n 1, .invokevirtual 116, .invokevirtual 134, .lstore_n 2, .iconst (0), .istore 4]),
  (23, [.iload 4, .aload_n 0, .invokevirtual 127, .if_icmp .ge (99)]),
  (32, [.lload_n 2, .lconst 0, .lcmp, .ifCond .lt (93)]),
  (38, [.bipush (21), .iload_n 1, .imul, .iload 4, .iadd, .istore 5, .aload_n 0, .getfield 55, .iload 5, .baload, .ifCond .eq (68)]),
  (57, [.aload_n 0, .getfield 49, .iload 5, .iconst (1), .iadd, .laload, .lconst 0, .lcmp, .ifCond .lt (54)]),
  (71, [.aload_n 0, .getfield 49, .iload 5, .iconst (1), .iadd, .laload, .lload_n 2, .ladd, .aload_n 0, .getfield 49, .iload 5, .laload, .lcmp, .ifCond .ne (32)]),
  (93, [.aload_n 0, .getfield 52, .iload 5, .iconst (1), .iadd, .iaload, .aload_n 0, .getfield 52, .iload 5, .iaload, .if_icmp .ne (13)]),
  (112, [.aload_n 0, .getfield 55, .iload 5, .iconst (1), .iadd, .iconst (1), .bastore]),
  (122, [.iinc 4 (1), .goto (-102)]),
  (128, [.iinc 1 (1), .goto (-129)]),
  (134, [.return_])]
def kd_42 : List (Nat × List Jvm.ClassFile.Instr) := [(0, [.iconst (0), .istore_n 2, .iconst (0), .istore_n 3]),
  (4, [.iload_n 3, .aload_n 0, .getfield 88, .if_icmp .gt (141)]),
  (12, [.aload_n 0, .iload_n 1, .invokevirtual 124, .istore 4]),
  (19, [.iload 4, .aload_n 0, .invokevirtual 127, .if_icmp .gt (119)]),
  (28, [.bipush (21), .iload_n 3, .imul, .iload 4, .iadd, .istore 5, .bipush (21), .iload_n 1, .imul, .iload 4, .iadd, .aload_n 0, .iload_n 1, .invokevirtual 124, .isub, .istore 6, .aload_n 0, .getfield 55, .iload 5, .baload, .ifCond .eq (79)]),
  (62, [.aload_n 0, .iload_n 3, .iload 4, .iload_n 1, .invokevirtual 141, .ifCond .eq (68)]),
  (73, [.aload_n 0, .getfield 49, .iload 6, .laload, .lconst 0, .lcmp, .ifCond .lt (56)]),
  (85, [.aload_n 0, .getfield 49, .iload 6, .laload, .aload_n 0, .iload_n 1, .invokevirtual 120, .ladd, .aload_n 0, .getfield 49, .iload 5, .laload, .lcmp, .ifCond .ne (32)]),
  (109, [.aload_n 0, .getfield 52, .iload 6, .iaload, .iconst (1), .iadd, .aload_n 0, .getfield 52, .iload 5, .iaload, .if_icmp .ne (13)]),
  (128, [.aload_n 0, .getfield 58, .iload 6, .iconst (1), .bastore, .iconst (1), .istore_n 2]),
  (138, [.iinc 4 (1), .goto (-122)]),
  (144, [.iinc 3 (1), .goto (-143)]),
  (150, [.iload_n 2, .ireturn])]
def kd_43 : List (Nat × List Jvm.ClassFile.Instr) := [(0, [.aload_n 0, .dup, .getfield 110, .lconst 1, .ladd, .putfield 110, .aload_n 0, .getfield 45, .iconst (2), .if_icmp .ne (10)]),
  (18, [.aload_n 0, .getfield 145, .goto (4)]),
  (25, [.iconst (0)]),
  (26, [.istore_n 1, .aload_n 0, .invokevirtual 148, .aload_n 0, .iconst (0), .putfield 151, .aload_n 0, .iconst (0), .putfield 154, .aload_n 0, .getfield 49, .iload_n 1, .laload, .lconst 0, .lcmp, .ifCond .ge (18)]),
  (52, [.aload_n 0, .getfield 45, .iconst (2), .if_icmp .ne (8)]),
  (60, [.aload_n 0, .iload_n 1, .invokevirtual 157]),
  (65, [.iconst (0), .ireturn]),
  (67, [.aload_n 0, .aload_n 0, .getfield 49, .iload_n 1, .laload, .putfield 161, .iconst (0), .istore_n 2]),
  (79, [.iload_n 2, .sipush (2541), .if_icmp .ge (25)]),
  (86, [.aload_n 0, .getfield 55, .iload_n 2, .iload_n 2, .iload_n 1, .if_icmp .ne (7)]),
  (96, [.iconst (1), .goto (4)]),
  (100, [.iconst (0)]),
  (101, [.bastore, .iinc 2 (1), .goto (-26)]),
  (108, [.aload_n 0, .getfield 52, .iload_n 1, .iaload, .istore_n 2]),
  (115, [.aload_n 0, .getfield 151, .iload_n 2, .if_icmp .ge (99)]),
  (123, [.aload_n 0, .invokevirtual 164, .iconst (0), .istore_n 3]),
  (129, [.iload_n 3, .sipush (2541), .if_icmp .ge (16)]),
  (136, [.aload_n 0, .getfield 58, .iload_n 3, .iconst (0), .bastore, .iinc 3 (1), .goto (-17)]),
  (149, [.iconst (1), .istore_n 3]),
  (151, [.aload_n 0, .iload_n 3, .invokevirtual 167, .ifCond .ne (9)]),
  (159, [.iinc 3 (1), .goto (-11)]),
  (165, [.aload_n 0, .getfield 73, .aload_n 0, .getfield 151, .iload_n 3, .iastore, .aload_n 0, .dup, .getfield 151, .iconst (1), .iadd, .putfield 151, .iconst (0), .istore 4]),
  (188, [.iload 4, .sipush (2541), .if_icmp .ge (23)]),
  (196, [.aload_n 0, .getfield 55, .iload 4, .aload_n 0, .getfield 58, .iload 4, .baload, .bastore, .iinc 4 (1), .goto (-25)]),
  (216, [.goto (-101)]),
  (219, [.iconst (1), .ireturn])]
def kd_44 : List (Nat × List Jvm.ClassFile.Instr) := [(0, [.aload_n 0, .getfield 7, .iload_n 1, .laload, .aload_n 0, .getfield 7, .aload_n 0, .getfield 131, .laload, .lsub, .aload_n 0, .getfield 7, .iload_n 1, .laload, .aload_n 0, .getfield 7, .aload_n 0, .getfield 131, .laload, .lsub, .lmul, .aload_n 0, .getfield 13, .iload_n 1, .laload, .aload_n 0, .getfield 13, .aload_n 0, .getfield 131, .laload, .lsub, .aload_n 0, .getfield 13, .iload_n 1, .laload, .aload_n 0, .getfield 13, .aload_n 0, .getfield 131, .laload, .lsub, .lmul, .ladd, .lreturn])]
def kd_45 : List (Nat × List Jvm.ClassFile.Instr) := [(0, [.iconst (0), .istore_n 2]),
  (2, [.iload_n 2, .sipush (2541), .if_icmp .ge (25)]),
  (9, [.aload_n 0, .getfield 55, .iload_n 2, .iload_n 2, .iload_n 1, .if_icmp .ne (7)]),
  (19, [.iconst (1), .goto (4)]),
  (23, [.iconst (0)]),
  (24, [.bastore, .iinc 2 (1), .goto (-26)]),
  (31, [.iconst (1), .istore_n 2]),
  (33, [.iload_n 2, .ifCond .eq (174)]),
  (37, [.iconst (0), .istore_n 2, .iconst (0), .istore_n 3]),
  (41, [.iload_n 3, .aload_n 0, .getfield 88, .if_icmp .gt (159)]),
  (49, [.iconst (0), .istore 4]),
  (52, [.iload 4, .bipush (20), .if_icmp .gt (143)]),
  (59, [.bipush (21), .iload_n 3, .imul, .iload 4, .iadd, .istore 5, .aload_n 0, .getfield 55, .iload 5, .baload, .ifCond .ne (6)]),
  (78, [.goto (115)]),
  (81, [.aload_n 0, .aload_n 0, .iload_n 3, .invokevirtual 116, .invokevirtual 134, .lconst 0, .lcmp, .ifCond .lt (34)]),
  (95, [.iload 4, .bipush (20), .if_icmp .ge (27)]),
  (102, [.aload_n 0, .getfield 55, .iload 5, .iconst (1), .iadd, .baload, .ifCond .ne (15)]),
  (114, [.aload_n 0, .getfield 55, .iload 5, .iconst (1), .iadd, .iconst (1), .bastore, .iconst (1), .istore_n 2]),
  (126, [.iconst (1), .istore 6]),
  (129, [.iload 6, .aload_n 0, .getfield 88, .if_icmp .gt (58)]),
  (138, [.bipush (21), .iload 6, .imul, .iload 4, .iadd, .aload_n 0, .iload 6, .invokevirtual 124, .isub, .istore 7, .aload_n 0, .iload_n 3, .iload 4, .iload 6, .invokevirtual 141, .ifCond .eq (23)]),
  (167, [.aload_n 0, .getfield 55, .iload 7, .baload, .ifCond .ne (13)]),
  (177, [.aload_n 0, .getfield 55, .iload 7, .iconst (1), .bastore, .iconst (1), .istore_n 2]),
  (187, [.iinc 6 (1), .goto (-61)]),
  (193, [.iinc 4 (1), .goto (-144)]),
  (199, [.iinc 3 (1), .goto (-161)]),
  (205, [.goto (-172)]),
  (208, [.iconst (1), .istore_n 3]),
  (210, [.iload_n 3, .aload_n 0, .getfield 85, .if_icmp .gt (116)]),
  (218, [.iconst (0), .istore 4, .iconst (0), .istore 5]),
  (224, [.iload 5, .bipush (21), .aload_n 0, .getfield 88, .imul, .bipush (21), .iadd, .if_icmp .ge (44)]),
  (239, [.iload 4, .ifCond .ne (26)]),
  (244, [.aload_n 0, .getfield 55, .iload 5, .baload, .ifCond .eq (20)]),
  (254, [.aload_n 0, .iload 5, .bipush (21), .idiv, .invokevirtual 116, .iload_n 3, .if_icmp .ne (7)]),
  (267, [.iconst (1), .goto (4)]),
  (271, [.iconst (0)]),
  (272, [.istore 4, .iinc 5 (1), .goto (-53)]),
  (280, [.iload 4, .ifCond .eq (43)]),
  (285, [.aload_n 0, .getfield 16, .iload_n 3, .laload, .lconst 0, .lcmp, .ifCond .le (32)]),
  (296, [.aload_n 0, .getfield 154, .ifCond .eq (20)]),
  (303, [.aload_n 0, .iload_n 3, .invokevirtual 170, .aload_n 0, .aload_n 0, .getfield 154, .invokevirtual 170, .lcmp, .ifCond .ge (8)]),
  (320, [.aload_n 0, .iload_n 3, .putfield 154]),
  (325, [.iinc 3 (1), .goto (-118)]),
  (331, [.return_])]
def kd_46 : List (Nat × List Jvm.ClassFile.Instr) := [(0, [.aload_n 0, .aload_n 0, .getfield 151, .putfield 173, .iconst (0), .istore_n 1]),
  (10, [.iload_n 1, .aload_n 0, .getfield 151, .if_icmp .ge (21)]),
  (18, [.aload_n 0, .getfield 61, .iload_n 1, .aload_n 0, .getfield 73, .iload_n 1, .iaload, .iastore, .iinc 1 (1), .goto (-23)]),
  (36, [.iconst (0), .istore_n 1]),
  (38, [.iload_n 1, .sipush (2600), .if_icmp .ge (16)]),
  (45, [.aload_n 0, .getfield 70, .iload_n 1, .iconst (0), .bastore, .iinc 1 (1), .goto (-17)]),
  (58, [.aload_n 0, .aload_n 0, .getfield 161, .putfield 66, .return_])]
def kd_47 : List (Nat × List Jvm.ClassFile.Instr) := [(0, [.aload_n 0, .iconst (0), .putfield 82, .aload_n 0, .iload_n 1, .invokevirtual 95, .ifCond .ne (41)]),
  (13, [.aload_n 0, .iload_n 2, .invokevirtual 95, .ifCond .ne (33)]),
  (21, [.iload_n 3, .ifCond .lt (29)]),
  (25, [.iload_n 3, .iconst (2), .if_icmp .gt (24)]),
  (30, [.iload_n 3, .iconst (2), .if_icmp .ne (22)]),
  (35, [.lload 4, .lconst 0, .lcmp, .ifCond .lt (12)]),
  (42, [.lload 4, .ldc2_w 176, .lcmp, .ifCond .le (6)]),
  (51, [.bipush (-2), .ireturn]),
  (54, [.aload_n 0, .iload_n 1, .putfield 113, .aload_n 0, .iload_n 2, .putfield 131, .aload_n 0, .iload_n 3, .putfield 45, .aload_n 0, .iload_n 3, .iconst (2), .if_icmp .ne (9)]),
  (75, [.lload 4, .l2i, .goto (4)]),
  (81, [.iconst (0)]),
  (82, [.putfield 145, .aload_n 0, .invokevirtual 178, .istore 6, .aload_n 0, .iload 6, .ifCond .eq (10)]),
  (97, [.aload_n 0, .getfield 151, .goto (4)]),
  (104, [.iconst (0)]),
  (105, [.putfield 151, .aload_n 0, .iload 6, .ifCond .eq (10)]),
  (114, [.aload_n 0, .getfield 161, .goto (6)]),
  (121, [.ldc2_w 64]),
  (124, [.putfield 161, .aload_n 0, .invokevirtual 182, .iload 6, .ifCond .eq (10)]),
  (136, [.aload_n 0, .getfield 173, .goto (4)]),
  (143, [.iconst (-1)]),
  (144, [.ireturn])]
def kd_48 : List (Nat × List Jvm.ClassFile.Instr) := [(0, [.iconst (0), .istore_n 1]),
  (2, [.iload_n 1, .bipush (21), .if_icmp .ge (30)]),
  (8, [.aload_n 0, .getfield 76, .iload_n 1, .iload_n 1, .aload_n 0, .getfield 145, .if_icmp .ne (7)]),
  (21, [.lconst 0, .goto (6)]),
  (25, [.ldc2_w 64]),
  (28, [.lastore, .iinc 1 (1), .goto (-30)]),
  (35, [.iconst (0), .istore_n 1]),
  (37, [.iload_n 1, .aload_n 0, .getfield 173, .if_icmp .ge (245)]),
  (45, [.aload_n 0, .getfield 61, .iload_n 1, .iaload, .istore_n 2, .iload_n 1, .ifCond .ne (7)]),
  (56, [.iconst (0), .goto (11)]),
  (60, [.aload_n 0, .getfield 61, .iload_n 1, .iconst (1), .isub, .iaload]),
  (68, [.istore_n 3, .aload_n 0, .iload_n 2, .invokevirtual 120, .lconst 0, .lcmp, .ifCond .lt (21)]),
  (79, [.iload_n 3, .ifCond .le (21)]),
  (83, [.aload_n 0, .getfield 41, .bipush (121), .iload_n 3, .imul, .iload_n 2, .iadd, .baload, .ifCond .eq (7)]),
  (97, [.ldc2_w 64, .lreturn]),
  (101, [.aload_n 0, .aload_n 0, .getfield 19, .iload_n 2, .iaload, .invokevirtual 134, .lstore 4, .iconst (1), .istore 6]),
  (116, [.iload 6, .aload_n 0, .invokevirtual 127, .if_icmp .gt (84)]),
  (125, [.lload 4, .lconst 0, .lcmp, .ifCond .lt (77)]),
  (132, [.aload_n 0, .getfield 76, .iload 6, .iconst (1), .isub, .laload, .lconst 0, .lcmp, .ifCond .lt (57)]),
  (146, [.aload_n 0, .getfield 76, .iload 6, .laload, .lconst 0, .lcmp, .ifCond .lt (26)]),
  (158, [.aload_n 0, .getfield 76, .iload 6, .laload, .aload_n 0, .getfield 76, .iload 6, .iconst (1), .isub, .laload, .lload 4, .ladd, .lcmp, .ifCond .le (22)]),
  (181, [.aload_n 0, .getfield 76, .iload 6, .aload_n 0, .getfield 76, .iload 6, .iconst (1), .isub, .laload, .lload 4, .ladd, .lastore]),
  (200, [.iinc 6 (1), .goto (-87)]),
  (206, [.iconst (0), .istore 6]),
  (209, [.iload 6, .aload_n 0, .invokevirtual 127, .if_icmp .gt (66)]),
  (218, [.iload 6, .aload_n 0, .iload_n 2, .invokevirtual 124, .iadd, .istore 7, .aload_n 0, .getfield 76, .iload 6, .iload 7, .aload_n 0, .invokevirtual 127, .if_icmp .gt (31)]),
  (243, [.aload_n 0, .getfield 76, .iload 7, .laload, .lconst 0, .lcmp, .ifCond .lt (19)]),
  (255, [.aload_n 0, .getfield 76, .iload 7, .laload, .aload_n 0, .iload_n 2, .invokevirtual 120, .ladd, .goto (6)]),
  (271, [.ldc2_w 64]),
  (274, [.lastore, .iinc 6 (1), .goto (-69)]),
  (281, [.iinc 1 (1), .goto (-247)]),
  (287, [.ldc2_w 64, .lstore_n 1, .iconst (0), .istore_n 3]),
  (293, [.iload_n 3, .aload_n 0, .invokevirtual 127, .if_icmp .gt (48)]),
  (301, [.aload_n 0, .getfield 76, .iload_n 3, .laload, .lconst 0, .lcmp, .ifCond .lt (29)]),
  (312, [.lload_n 1, .lconst 0, .lcmp, .ifCond .lt (14)]),
  (318, [.aload_n 0, .getfield 76, .iload_n 3, .laload, .lload_n 1, .lcmp, .ifCond .ge (12)]),
  (329, [.aload_n 0, .getfield 76, .iload_n 3, .laload, .goto (4)]),
  (338, [.lload_n 1]),
  (339, [.lstore_n 1, .iinc 3 (1), .goto (-50)]),
  (346, [.lload_n 1, .lreturn])]
def kd_49 : List (Nat × List Jvm.ClassFile.Instr) := [(0, [.aload_n 0, .iconst (0), .putfield 82, .lload_n 1, .lconst 0, .lcmp, .ifCond .ge (6)]),
  (11, [.bipush (-2), .ireturn]),
  (14, [.aload_n 0, .getfield 45, .ifCond .ge (6)]),
  (21, [.bipush (-3), .ireturn]),
  (24, [.aload_n 0, .invokevirtual 178, .ifCond .ne (5)]),
  (31, [.iconst (0), .ireturn]),
  (33, [.aload_n 0, .getfield 66, .lconst 0, .lcmp, .ifCond .ge (9)]),
  (42, [.ldc2_w 64, .goto (7)]),
  (48, [.aload_n 0, .invokevirtual 185]),
  (52, [.lstore_n 3, .aload_n 0, .getfield 173, .aload_n 0, .getfield 151, .if_icmp .ne (7)]),
  (64, [.iconst (1), .goto (4)]),
  (68, [.iconst (0)]),
  (69, [.istore 5, .iconst (0), .istore 6]),
  (74, [.iload 6, .aload_n 0, .getfield 173, .if_icmp .ge (38)]),
  (83, [.iload 5, .ifCond .eq (33)]),
  (88, [.aload_n 0, .getfield 61, .iload 6, .iaload, .aload_n 0, .getfield 73, .iload 6, .iaload, .if_icmp .ne (7)]),
  (105, [.iconst (1), .goto (4)]),
  (109, [.iconst (0)]),
  (110, [.istore 5, .iinc 6 (1), .goto (-41)]),
  (118, [.lload_n 3, .lconst 0, .lcmp, .ifCond .lt (21)]),
  (124, [.iload 5, .ifCond .ne (14)]),
  (129, [.lload_n 3, .aload_n 0, .getfield 161, .lsub, .lload_n 1, .lcmp, .ifCond .ge (5)]),
  (140, [.iconst (0), .ireturn]),
  (142, [.aload_n 0, .invokevirtual 182, .iconst (1), .ireturn])]
def kd_50 : List (Nat × List Jvm.ClassFile.Instr) := [(0, [.aload_n 0, .iconst (0), .putfield 82, .iload_n 1, .ifCond .lt (11)]),
  (9, [.iload_n 1, .aload_n 0, .getfield 173, .if_icmp .lt (7)]),
  (17, [.iconst (0), .goto (9)]),
  (21, [.aload_n 0, .getfield 61, .iload_n 1, .iaload]),
  (27, [.ireturn])]
def kd_51 : List (Nat × List Jvm.ClassFile.Instr) := [(0, [.aload_n 0, .iconst (0), .putfield 82, .aload_n 0, .getfield 66, .lreturn])]
def kd_52 : List (Nat × List Jvm.ClassFile.Instr) := [(0, [.aload_n 0, .iconst (0), .putfield 82, .aload_n 0, .getfield 154, .ireturn])]
def kd_53 : List (Nat × List Jvm.ClassFile.Instr) := [(0, [.aload_n 0, .iconst (0), .putfield 82, .iload_n 1, .ifCond .lt (13)]),
  (9, [.iload_n 1, .aload_n 0, .getfield 173, .iconst (2), .isub, .if_icmp .le (5)]),
  (19, [.iconst (-1), .ireturn]),
  (21, [.iload_n 2, .ifCond .lt (8)]),
  (25, [.iload_n 2, .iconst (2), .if_icmp .le (6)]),
  (30, [.bipush (-2), .ireturn]),
  (33, [.aload_n 0, .getfield 61, .iload_n 1, .iaload, .istore_n 3, .aload_n 0, .getfield 61, .iload_n 1, .iconst (1), .iadd, .iaload, .istore 4, .iload_n 2, .iconst (1), .if_icmp .ne (6)]),
  (55, [.iload 4, .ireturn]),
  (58, [.iload_n 2, .iconst (2), .if_icmp .ne (29)]),
  (63, [.aload_n 0, .getfield 70, .iload_n 1, .baload, .ifCond .eq (7)]),
  (72, [.iconst (0), .goto (4)]),
  (76, [.iconst (1)]),
  (77, [.istore 5, .aload_n 0, .getfield 70, .iload_n 1, .iconst (1), .bastore, .iload 5, .ireturn]),
  (89, [.aload_n 0, .getfield 7, .aload_n 0, .getfield 23, .iload_n 3, .iaload, .laload, .aload_n 0, .getfield 7, .aload_n 0, .getfield 19, .iload_n 3, .iaload, .laload, .lsub, .lstore 5, .aload_n 0, .getfield 13, .aload_n 0, .getfield 23, .iload_n 3, .iaload, .laload, .aload_n 0, .getfield 13, .aload_n 0, .getfield 19, .iload_n 3, .iaload, .laload, .lsub, .lstore 7, .aload_n 0, .getfield 7, .aload_n 0, .getfield 23, .iload 4, .iaload, .laload, .aload_n 0, .getfield 7, .aload_n 0, .getfield 19, .iload 4, .iaload, .laload, .lsub, .lstore 9, .aload_n 0, .getfield 13, .aload_n 0, .getfield 23, .iload 4, .iaload, .laload, .aload_n 0, .getfield 13, .aload_n 0, .getfield 19, .iload 4, .iaload, .laload, .lsub, .lstore 11, .lload 5, .lload 11, .lmul, .lload 7, .lload 9, .lmul, .lsub, .lstore 13, .lload 5, .lload 9, .lmul, .lload 7, .lload 11, .lmul, .ladd, .lstore 15, .lload 13, .lconst 0, .lcmp, .ifCond .ge (12)]),
  (226, [.ldc2_w 189, .lload 13, .lmul, .goto (9)]),
  (235, [.ldc2_w 191, .lload 13, .lmul]),
  (241, [.lstore 17, .lload 17, .lload 15, .lcmp, .ifCond .gt (5)]),
  (251, [.iconst (0), .ireturn]),
  (253, [.lload 17, .lload 15, .ladd, .lconst 0, .lcmp, .ifCond .gt (5)]),
  (263, [.iconst (3), .ireturn]),
  (265, [.lload 13, .lconst 0, .lcmp, .ifCond .le (7)]),
  (272, [.iconst (2), .goto (4)]),
  (276, [.iconst (1)]),
  (277, [.ireturn])]
def kd_54 : List (Nat × List Jvm.ClassFile.Instr) := [(0, [.lload_n 0, .lconst 0, .lcmp, .ifCond .ne (11)]),
  (6, [.lload_n 2, .lconst 0, .lcmp, .ifCond .ne (5)]),
  (12, [.iconst (-1), .ireturn]),
  (14, [.lload_n 0, .lconst 0, .lcmp, .ifCond .le (21)]),
  (20, [.lload_n 2, .lconst 0, .lcmp, .ifCond .lt (15)]),
  (26, [.lload_n 2, .lload_n 0, .lcmp, .ifCond .ge (7)]),
  (32, [.iconst (0), .goto (4)]),
  (36, [.iconst (1)]),
  (37, [.ireturn]),
  (38, [.lload_n 0, .lconst 0, .lcmp, .ifCond .gt (22)]),
  (44, [.lload_n 2, .lconst 0, .lcmp, .ifCond .le (16)]),
  (50, [.lload_n 0, .lneg, .lload_n 2, .lcmp, .ifCond .ge (7)]),
  (57, [.iconst (2), .goto (4)]),
  (61, [.iconst (3)]),
  (62, [.ireturn]),
  (63, [.lload_n 0, .lconst 0, .lcmp, .ifCond .ge (17)]),
  (69, [.lload_n 2, .lneg, .lload_n 0, .lneg, .lcmp, .ifCond .ge (7)]),
  (77, [.iconst (4), .goto (4)]),
  (81, [.iconst (5)]),
  (82, [.ireturn]),
  (83, [.lload_n 0, .lload_n 2, .lneg, .lcmp, .ifCond .ge (8)]),
  (90, [.bipush (6), .goto (5)]),
  (95, [.bipush (7)]),
  (97, [.ireturn])]
def kd_55 : List (Nat × List Jvm.ClassFile.Instr) := [(0, [.aload_n 0, .getfield 7, .aload_n 0, .getfield 23, .iload_n 1, .iaload, .laload, .aload_n 0, .getfield 7, .aload_n 0, .getfield 19, .iload_n 1, .iaload, .laload, .lsub, .lstore 6, .aload_n 0, .getfield 13, .aload_n 0, .getfield 23, .iload_n 1, .iaload, .laload, .aload_n 0, .getfield 13, .aload_n 0, .getfield 19, .iload_n 1, .iaload, .laload, .lsub, .lstore 8, .lload_n 2, .aload_n 0, .getfield 7, .aload_n 0, .getfield 19, .iload_n 1, .iaload, .laload, .lsub, .lstore 10, .lload 4, .aload_n 0, .getfield 13, .aload_n 0, .getfield 19, .iload_n 1, .iaload, .laload, .lsub, .lstore 12, .lload_n 2, .aload_n 0, .getfield 7, .aload_n 0, .getfield 23, .iload_n 1, .iaload, .laload, .lsub, .lstore 14, .lload 4, .aload_n 0, .getfield 13, .aload_n 0, .getfield 23, .iload_n 1, .iaload, .laload, .lsub, .lstore 16, .lload 10, .lload 6, .lmul, .lload 12, .lload 8, .lmul, .ladd, .lconst 0, .lcmp, .ifCond .gt (15)]),
  (128, [.lload 10, .lload 10, .lmul, .lload 12, .lload 12, .lmul, .ladd, .lreturn]),
  (140, [.lload 14, .lload 6, .lmul, .lload 16, .lload 8, .lmul, .ladd, .lconst 0, .lcmp, .ifCond .lt (15)]),
  (156, [.lload 14, .lload 14, .lmul, .lload 16, .lload 16, .lmul, .ladd, .lreturn]),
  (168, [.lload 10, .lload 8, .lmul, .lload 12, .lload 6, .lmul, .lsub, .lstore 18, .lload 18, .lload 18, .lmul, .lload 6, .lload 6, .lmul, .lload 8, .lload 8, .lmul, .ladd, .ldiv, .lreturn])]
def kd_56 : List (Nat × List Jvm.ClassFile.Instr) := [(0, [.aload_n 0, .iconst (0), .putfield 82, .lload_n 1, .ldc2_w 193, .lcmp, .ifCond .lt (40)]),
  (13, [.lload_n 1, .ldc2_w 103, .lcmp, .ifCond .gt (32)]),
  (21, [.lload_n 3, .ldc2_w 193, .lcmp, .ifCond .lt (24)]),
  (29, [.lload_n 3, .ldc2_w 103, .lcmp, .ifCond .gt (16)]),
  (37, [.iload 5, .iconst (-1), .if_icmp .lt (10)]),
  (43, [.iload 5, .bipush (7), .if_icmp .le (6)]),
  (50, [.bipush (-2), .ireturn]),
  (53, [.iconst (0), .istore 6, .lconst 0, .lstore 7, .iconst (1), .istore 9]),
  (62, [.iload 9, .aload_n 0, .getfield 88, .if_icmp .gt (167)]),
  (71, [.aload_n 0, .getfield 7, .aload_n 0, .getfield 23, .iload 9, .iaload, .laload, .aload_n 0, .getfield 7, .aload_n 0, .getfield 19, .iload 9, .iaload, .laload, .lsub, .aload_n 0, .getfield 13, .aload_n 0, .getfield 23, .iload 9, .iaload, .laload, .aload_n 0, .getfield 13, .aload_n 0, .getfield 19, .iload 9, .iaload, .laload, .lsub, .invokestatic 195, .istore 10, .iload 10, .iload 5, .if_icmp .ge (11)]),
  (133, [.iload 5, .iload 10, .isub, .goto (8)]),
  (141, [.iload 10, .iload 5, .isub]),
  (146, [.istore 11, .iload 5, .ifCond .lt (21)]),
  (153, [.iload 10, .ifCond .lt (20)]),
  (158, [.iload 11, .iconst (2), .if_icmp .lt (10)]),
  (164, [.iload 11, .bipush (7), .if_icmp .ne (7)]),
  (171, [.iconst (1), .goto (4)]),
  (175, [.iconst (0)]),
  (176, [.istore 12, .iload 12, .ifCond .eq (14)]),
  (183, [.aload_n 0, .iload 9, .lload_n 1, .lload_n 3, .invokevirtual 199, .goto (6)]),
  (194, [.ldc2_w 203]),
  (197, [.lstore 13, .lload 13, .ldc2_w 205, .lcmp, .ifCond .gt (24)]),
  (208, [.iload 6, .ifCond .eq (11)]),
  (213, [.lload 13, .lload 7, .lcmp, .ifCond .ge (11)]),
  (221, [.iload 9, .istore 6, .lload 13, .lstore 7]),
  (229, [.iinc 9 (1), .goto (-170)]),
  (235, [.iload 6, .ireturn])]
def kd_57 : List (Nat × List Jvm.ClassFile.Instr) := [(0, [.bipush (97), .iload_n 1, .ifCond .ne (11)]),
  (6, [.iload_n 0, .sipush (676), .idiv, .goto (22)]),
  (14, [.iload_n 1, .iconst (1), .if_icmp .ne (13)]),
  (19, [.iload_n 0, .bipush (26), .idiv, .bipush (26), .irem, .goto (7)]),
  (29, [.iload_n 0, .bipush (26), .irem]),
  (33, [.iadd, .ireturn])]
def kd_58 : List (Nat × List Jvm.ClassFile.Instr) := [(0, [.aload_n 0, .iconst (0), .putfield 82, .iload_n 1, .ifCond .eq (18)]),
  (9, [.iload_n 1, .bipush (97), .if_icmp .lt (9)]),
  (15, [.iload_n 1, .bipush (122), .if_icmp .le (6)]),
  (21, [.bipush (-2), .ireturn]),
  (24, [.iload_n 1, .ifCond .eq (14)]),
  (28, [.aload_n 0, .getfield 207, .iconst (3), .if_icmp .ne (6)]),
  (36, [.bipush (-3), .ireturn]),
  (39, [.iload_n 1, .ifCond .le (13)]),
  (43, [.aload_n 0, .getfield 79, .aload_n 0, .getfield 207, .iload_n 1, .iastore]),
  (53, [.aload_n 0, .iload_n 1, .ifCond .ne (7)]),
  (58, [.iconst (0), .goto (9)]),
  (62, [.aload_n 0, .getfield 207, .iconst (1), .iadd]),
  (68, [.putfield 207, .iconst (0), .istore_n 2, .iconst (1), .istore_n 3]),
  (75, [.iload_n 3, .aload_n 0, .getfield 85, .if_icmp .gt (71)]),
  (83, [.iconst (1), .istore 4, .iconst (0), .istore 5]),
  (89, [.iload 5, .aload_n 0, .getfield 207, .if_icmp .ge (37)]),
  (98, [.iload 4, .ifCond .eq (23)]),
  (103, [.iload_n 3, .iload 5, .invokestatic 210, .aload_n 0, .getfield 79, .iload 5, .iaload, .if_icmp .ne (7)]),
  (119, [.iconst (1), .goto (4)]),
  (123, [.iconst (0)]),
  (124, [.istore 4, .iinc 5 (1), .goto (-40)]),
  (132, [.iload 4, .ifCond .eq (9)]),
  (137, [.iload_n 2, .iconst (1), .iadd, .goto (4)]),
  (143, [.iload_n 2]),
  (144, [.istore_n 2, .iinc 3 (1), .goto (-73)]),
  (151, [.iload_n 2, .ireturn])]
def kd_59 : List (Nat × List Jvm.ClassFile.Instr) := [(0, [.aload_n 0, .iconst (0), .putfield 82, .iload_n 2, .ifCond .lt (14)]),
  (9, [.iload_n 2, .bipush (7), .if_icmp .gt (8)]),
  (15, [.iload_n 1, .iconst (1), .if_icmp .ge (6)]),
  (20, [.bipush (-2), .ireturn]),
  (23, [.aload_n 0, .getfield 214, .ifCond .eq (13)]),
  (30, [.aload_n 0, .getfield 214, .sipush (255), .if_icmp .ne (7)]),
  (40, [.iconst (1), .goto (4)]),
  (44, [.iconst (0)]),
  (45, [.istore_n 3, .iload_n 3, .ifCond .eq (11)]),
  (50, [.iload_n 1, .aload_n 0, .getfield 217, .if_icmp .le (27)]),
  (58, [.iload_n 3, .ifCond .ne (25)]),
  (62, [.iload_n 1, .aload_n 0, .getfield 217, .if_icmp .ne (15)]),
  (70, [.aload_n 0, .getfield 214, .iload_n 2, .ishr, .iconst (1), .iand, .iconst (1), .if_icmp .ne (5)]),
  (82, [.iconst (0), .ireturn]),
  (84, [.aload_n 0, .iload_n 3, .ifCond .eq (9)]),
  (89, [.iconst (1), .iload_n 2, .ishl, .goto (11)]),
  (95, [.aload_n 0, .getfield 214, .iconst (1), .iload_n 2, .ishl, .ior]),
  (103, [.putfield 214, .aload_n 0, .iload_n 1, .putfield 217, .iconst (1), .ireturn])]
def kd_60 : List (Nat × List Jvm.ClassFile.Instr) := [(0, [.aload_n 0, .invokespecial 3, .aload_n 0, .sipush (2541), .newarray .long, .putfield 11, .aload_n 0, .sipush (2541), .newarray .int, .putfield 15, .aload_n 0, .sipush (2542), .newarray .int, .putfield 19, .aload_n 0, .iconst (0), .putfield 22, .return_])]
def kd_61 : List (Nat × List Jvm.ClassFile.Instr) := [(0, [.aload_n 0, .iconst (0), .putfield 22, .iconst (0), .istore_n 2]),
  (7, [.iload_n 2, .iload_n 1, .if_icmp .ge (32)]),
  (12, [.iload_n 2, .sipush (2541), .if_icmp .ge (25)]),
  (19, [.aload_n 0, .getfield 11, .iload_n 2, .ldc2_w 26, .lastore, .aload_n 0, .getfield 15, .iload_n 2, .iconst (0), .iastore, .iinc 2 (1), .goto (-31)]),
  (41, [.return_])]
def kd_62 : List (Nat × List Jvm.ClassFile.Instr) := [(0, [.aload_n 0, .getfield 11, .iload_n 1, .laload, .lreturn])]
def kd_63 : List (Nat × List Jvm.ClassFile.Instr) := [(0, [.lload_n 2, .aload_n 0, .getfield 11, .iload_n 1, .laload, .lcmp, .ifCond .lt (4)]),
  (11, [.return_]),
  (12, [.aload_n 0, .getfield 11, .iload_n 1, .lload_n 2, .lastore, .aload_n 0, .getfield 15, .iload_n 1, .iaload, .ifCond .ne (23)]),
  (28, [.aload_n 0, .dup, .getfield 22, .iconst (1), .iadd, .putfield 22, .aload_n 0, .getfield 15, .iload_n 1, .aload_n 0, .getfield 22, .iastore]),
  (48, [.aload_n 0, .iload_n 1, .invokevirtual 28, .return_])]
def kd_64 : List (Nat × List Jvm.ClassFile.Instr) := [(0, [.aload_n 0, .getfield 22, .ifCond .ne (5)]),
  (7, [.iconst (-1), .ireturn]),
  (9, [.aload_n 0, .getfield 19, .iconst (1), .iaload, .istore_n 1, .aload_n 0, .getfield 19, .aload_n 0, .getfield 22, .iaload, .istore_n 2, .aload_n 0, .dup, .getfield 22, .iconst (1), .isub, .putfield 22, .aload_n 0, .getfield 22, .ifCond .le (8)]),
  (43, [.aload_n 0, .iload_n 2, .invokevirtual 32]),
  (48, [.iload_n 1, .ireturn])]
def kd_65 : List (Nat × List Jvm.ClassFile.Instr) := [(0, [.aload_n 0, .getfield 15, .iload_n 1, .iaload, .istore_n 2, .iconst (0), .istore_n 3]),
  (9, [.iload_n 3, .bipush (32), .if_icmp .ge (64)]),
  (15, [.iload_n 2, .iconst (1), .if_icmp .le (59)]),
  (20, [.aload_n 0, .getfield 19, .iload_n 2, .iconst (2), .idiv, .iaload, .istore 4, .aload_n 0, .getfield 11, .iload 4, .laload, .aload_n 0, .getfield 11, .iload_n 1, .laload, .lcmp, .ifCond .gt (6)]),
  (47, [.goto (29)]),
  (50, [.aload_n 0, .getfield 19, .iload_n 2, .iload 4, .iastore, .aload_n 0, .getfield 15, .iload 4, .iload_n 2, .iastore, .iload_n 2, .iconst (2), .idiv, .istore_n 2, .iinc 3 (1), .goto (-64)]),
  (76, [.aload_n 0, .getfield 19, .iload_n 2, .iload_n 1, .iastore, .aload_n 0, .getfield 15, .iload_n 1, .iload_n 2, .iastore, .return_])]
def kd_66 : List (Nat × List Jvm.ClassFile.Instr) := [(0, [.iconst (1), .istore_n 2, .iconst (0), .istore_n 3]),
  (4, [.iload_n 3, .bipush (32), .if_icmp .ge (114)]),
  (10, [.iconst (2), .iload_n 2, .imul, .aload_n 0, .getfield 22, .if_icmp .gt (104)]),
  (20, [.iconst (2), .iload_n 2, .imul, .istore 4, .iload 4, .aload_n 0, .getfield 22, .if_icmp .ge (36)]),
  (34, [.aload_n 0, .getfield 11, .aload_n 0, .getfield 19, .iload 4, .iconst (1), .iadd, .iaload, .laload, .aload_n 0, .getfield 11, .aload_n 0, .getfield 19, .iload 4, .iaload, .laload, .lcmp, .ifCond .ge (6)]),
  (64, [.iinc 4 (1)]),
  (67, [.aload_n 0, .getfield 19, .iload 4, .iaload, .istore 5, .aload_n 0, .getfield 11, .iload_n 1, .laload, .aload_n 0, .getfield 11, .iload 5, .laload, .lcmp, .ifCond .gt (6)]),
  (93, [.goto (28)]),
  (96, [.aload_n 0, .getfield 19, .iload_n 2, .iload 5, .iastore, .aload_n 0, .getfield 15, .iload 5, .iload_n 2, .iastore, .iload 4, .istore_n 2, .iinc 3 (1), .goto (-114)]),
  (121, [.aload_n 0, .getfield 19, .iload_n 2, .iload_n 1, .iastore, .aload_n 0, .getfield 15, .iload_n 1, .iload_n 2, .iastore, .return_])]
def kd_67 : List (Nat × List Jvm.ClassFile.Instr) := [(0, [.lload_n 0, .lload 6, .lmul, .lload_n 2, .lload 4, .lmul, .lsub, .lstore 8, .lload_n 0, .lload 4, .lmul, .lload_n 2, .lload 6, .lmul, .ladd, .lstore 10, .ldc2_w 7, .lload 8, .invokestatic 9, .lmul, .lstore 12, .lload 12, .lload 10, .lcmp, .ifCond .gt (5)]),
  (41, [.iconst (0), .ireturn]),
  (43, [.lload 12, .lload 10, .lneg, .lcmp, .ifCond .gt (5)]),
  (52, [.iconst (3), .ireturn]),
  (54, [.lload 8, .lconst 0, .lcmp, .ifCond .le (7)]),
  (61, [.iconst (2), .goto (4)]),
  (65, [.iconst (1)]),
  (66, [.ireturn])]
def kd_68 : List (Nat × List Jvm.ClassFile.Instr) := [(0, [.lload_n 0, .lconst 0, .lcmp, .ifCond .le (21)]),
  (6, [.lload_n 2, .lconst 0, .lcmp, .ifCond .lt (15)]),
  (12, [.lload_n 2, .lload_n 0, .lcmp, .ifCond .ge (7)]),
  (18, [.iconst (0), .goto (4)]),
  (22, [.iconst (1)]),
  (23, [.ireturn]),
  (24, [.lload_n 0, .lconst 0, .lcmp, .ifCond .gt (22)]),
  (30, [.lload_n 2, .lconst 0, .lcmp, .ifCond .le (16)]),
  (36, [.lload_n 0, .lneg, .lload_n 2, .lcmp, .ifCond .ge (7)]),
  (43, [.iconst (2), .goto (4)]),
  (47, [.iconst (3)]),
  (48, [.ireturn]),
  (49, [.lload_n 0, .lconst 0, .lcmp, .ifCond .ge (17)]),
  (55, [.lload_n 2, .lneg, .lload_n 0, .lneg, .lcmp, .ifCond .ge (7)]),
  (63, [.iconst (4), .goto (4)]),
  (67, [.iconst (5)]),
  (68, [.ireturn]),
  (69, [.lload_n 2, .lconst 0, .lcmp, .ifCond .ge (18)]),
  (75, [.lload_n 0, .lload_n 2, .lneg, .lcmp, .ifCond .ge (8)]),
  (82, [.bipush (6), .goto (5)]),
  (87, [.bipush (7)]),
  (89, [.ireturn]),
  (90, [.iconst (-1), .ireturn])]
def kd_69 : List (Nat × List Jvm.ClassFile.Instr) := [(0, [.lload_n 0, .lload 4, .lmul, .lload_n 2, .lload 6, .lmul, .ladd, .lstore 8, .lload 4, .lload 4, .lmul, .lload 6, .lload 6, .lmul, .ladd, .lstore 10, .lload 8, .lconst 0, .lcmp, .ifCond .le (10)]),
  (31, [.lload 10, .lconst 0, .lcmp, .ifCond .gt (11)]),
  (38, [.lload_n 0, .lload_n 0, .lmul, .lload_n 2, .lload_n 2, .lmul, .ladd, .lreturn]),
  (46, [.lload 8, .lload 10, .lcmp, .ifCond .lt (23)]),
  (54, [.lload_n 0, .lload 4, .lsub, .lload_n 0, .lload 4, .lsub, .lmul, .lload_n 2, .lload 6, .lsub, .lload_n 2, .lload 6, .lsub, .lmul, .ladd, .lreturn]),
  (74, [.lload_n 0, .lload 6, .lmul, .lload_n 2, .lload 4, .lmul, .lsub, .lstore 12, .lload 12, .lload 12, .lmul, .lload 10, .ldiv, .lreturn])]
def kd_70 : List (Nat × List Jvm.ClassFile.Instr) := [(0, [.aload_n 0, .invokespecial 3, .aload_n 0, .iconst (0), .putfield 9, .aload_n 0, .iconst (0), .putfield 13, .return_])]
def kd_71 : List (Nat × List Jvm.ClassFile.Instr) := [(0, [.aload_n 0, .getfield 13, .ifCond .eq (21)]),
  (7, [.aload_n 0, .getfield 13, .sipush (255), .if_icmp .ne (25)]),
  (17, [.iload_n 1, .aload_n 0, .getfield 9, .if_icmp .le (17)]),
  (25, [.aload_n 0, .iload_n 1, .putfield 9, .aload_n 0, .iconst (1), .iload_n 2, .ishl, .putfield 13, .iconst (1), .ireturn]),
  (39, [.iload_n 1, .aload_n 0, .getfield 9, .if_icmp .ne (14)]),
  (47, [.aload_n 0, .getfield 13, .iload_n 2, .ishr, .iconst (1), .iand, .ifCond .eq (5)]),
  (58, [.iconst (0), .ireturn]),
  (60, [.aload_n 0, .dup, .getfield 13, .iconst (1), .iload_n 2, .ishl, .ior, .putfield 13, .iconst (1), .ireturn])]
def kd_72 : List (Nat × List Jvm.ClassFile.Instr) := [(0, [.aload_n 0, .invokespecial 1, .aload_n 0, .iconst (3), .newarray .int, .putfield 9, .aload_n 0, .iconst (0), .putfield 13, .return_])]
def kd_73 : List (Nat × List Jvm.ClassFile.Instr) := [(0, [.iload_n 1, .bipush (97), .if_icmp .lt (13)]),
  (6, [.iload_n 1, .bipush (122), .if_icmp .gt (7)]),
  (12, [.iconst (1), .goto (4)]),
  (16, [.iconst (0)]),
  (17, [.ireturn])]
def kd_74 : List (Nat × List Jvm.ClassFile.Instr) := [(0, [.aload_n 0, .getfield 13, .iconst (3), .if_icmp .lt (7)]),
  (8, [.iconst (1), .goto (4)]),
  (12, [.iconst (0)]),
  (13, [.ireturn])]
def kd_75 : List (Nat × List Jvm.ClassFile.Instr) := [(0, [.aload_n 0, .iconst (0), .putfield 13, .return_])]
def kd_76 : List (Nat × List Jvm.ClassFile.Instr) := [(0, [.aload_n 0, .getfield 13, .iconst (3), .if_icmp .ge (26)]),
  (8, [.aload_n 0, .getfield 9, .aload_n 0, .getfield 13, .iload_n 1, .bipush (97), .isub, .iastore, .aload_n 0, .dup, .getfield 13, .iconst (1), .iadd, .putfield 13]),
  (31, [.return_])]
def kd_77 : List (Nat × List Jvm.ClassFile.Instr) := [(0, [.iconst (0), .istore_n 2, .iconst (1), .istore_n 3]),
  (4, [.iload_n 3, .iload_n 1, .if_icmp .gt (20)]),
  (9, [.aload_n 0, .iload_n 3, .invokevirtual 17, .ifCond .eq (6)]),
  (17, [.iinc 2 (1)]),
  (20, [.iinc 3 (1), .goto (-19)]),
  (26, [.iload_n 2, .ireturn])]
def kd_78 : List (Nat × List Jvm.ClassFile.Instr) := [(0, [.iconst (0), .istore_n 2]),
  (2, [.iload_n 2, .aload_n 0, .getfield 13, .if_icmp .ge (25)]),
  (10, [.aload_n 0, .getfield 9, .iload_n 2, .iaload, .iload_n 1, .iload_n 2, .invokestatic 21, .if_icmp .eq (5)]),
  (24, [.iconst (0), .ireturn]),
  (26, [.iinc 2 (1), .goto (-27)]),
  (32, [.iconst (1), .ireturn])]
def kd_79 : List (Nat × List Jvm.ClassFile.Instr) := [(0, [.iload_n 1, .lookupswitch (41) #[((0), (27)), ((1), (33))]]),
  (28, [.iload_n 0, .sipush (676), .idiv, .ireturn]),
  (34, [.iload_n 0, .bipush (26), .idiv, .bipush (26), .irem, .ireturn]),
  (42, [.iload_n 0, .bipush (26), .irem, .ireturn])]
def kd_80 : List (Nat × List Jvm.ClassFile.Instr) := [(0, [.aload_n 0, .invokespecial 3, .aload_n 0, .bipush (61), .newarray .long, .putfield 9, .aload_n 0, .bipush (61), .newarray .long, .putfield 15, .aload_n 0, .bipush (61), .newarray .long, .putfield 18, .aload_n 0, .iconst (0), .putfield 21, .return_])]
def kd_81 : List (Nat × List Jvm.ClassFile.Instr) := [(0, [.aload_n 0, .getfield 21, .ireturn])]
def kd_82 : List (Nat × List Jvm.ClassFile.Instr) := [(0, [.iload_n 1, .iconst (1), .if_icmp .lt (15)]),
  (5, [.iload_n 1, .aload_n 0, .getfield 21, .if_icmp .gt (7)]),
  (13, [.iconst (1), .goto (4)]),
  (17, [.iconst (0)]),
  (18, [.ireturn])]
def kd_83 : List (Nat × List Jvm.ClassFile.Instr) := [(0, [.aload_n 0, .getfield 21, .bipush (60), .if_icmp .lt (7)]),
  (9, [.iconst (1), .goto (4)]),
  (13, [.iconst (0)]),
  (14, [.ireturn])]
def kd_84 : List (Nat × List Jvm.ClassFile.Instr) := [(0, [.aload_n 0, .dup, .getfield 21, .iconst (1), .iadd, .putfield 21, .aload_n 0, .getfield 9, .aload_n 0, .getfield 21, .lload_n 1, .lastore, .aload_n 0, .getfield 15, .aload_n 0, .getfield 21, .lload_n 3, .lastore, .aload_n 0, .getfield 21, .ireturn])]
def kd_85 : List (Nat × List Jvm.ClassFile.Instr) := [(0, [.aload_n 0, .getfield 9, .iload_n 1, .laload, .lreturn])]
def kd_86 : List (Nat × List Jvm.ClassFile.Instr) := [(0, [.aload_n 0, .getfield 15, .iload_n 1, .laload, .lreturn])]
def kd_87 : List (Nat × List Jvm.ClassFile.Instr) := [(0, [.aload_n 0, .getfield 9, .iload_n 1, .laload, .aload_n 0, .getfield 9, .iload_n 2, .laload, .lsub, .lstore_n 3, .aload_n 0, .getfield 15, .iload_n 1, .laload, .aload_n 0, .getfield 15, .iload_n 2, .laload, .lsub, .lstore 5, .lload_n 3, .lload_n 3, .lmul, .lload 5, .lload 5, .lmul, .ladd, .lreturn])]
def kd_88 : List (Nat × List Jvm.ClassFile.Instr) := [(0, [.aload_n 0, .getfield 18, .iload_n 1, .lload_n 2, .lastore, .return_])]
def kd_89 : List (Nat × List Jvm.ClassFile.Instr) := [(0, [.aload_n 0, .getfield 18, .iload_n 1, .laload, .lconst 0, .lcmp, .ifCond .le (7)]),
  (11, [.iconst (1), .goto (4)]),
  (15, [.iconst (0)]),
  (16, [.ireturn])]
def kd_90 : List (Nat × List Jvm.ClassFile.Instr) := [(0, [.aload_n 0, .getfield 18, .iload_n 1, .laload, .lstore_n 2, .lload_n 2, .lconst 0, .lcmp, .ifCond .le (15)]),
  (13, [.lconst 1, .ldc2_w 25, .lload_n 2, .ldiv, .invokestatic 27, .goto (4)]),
  (25, [.lconst 0]),
  (26, [.lreturn])]
def kd_91 : List (Nat × List Jvm.ClassFile.Instr) := [(0, [.iconst (0), .istore_n 1, .iconst (1), .istore_n 2]),
  (4, [.iload_n 2, .aload_n 0, .getfield 21, .if_icmp .gt (20)]),
  (12, [.aload_n 0, .iload_n 2, .invokevirtual 33, .ifCond .eq (6)]),
  (20, [.iinc 1 (1)]),
  (23, [.iinc 2 (1), .goto (-22)]),
  (29, [.iload_n 1, .ireturn])]
def kd_92 : List (Nat × List Jvm.ClassFile.Instr) := [(0, [.aload_n 0, .invokespecial 3, .aload_n 0, .bipush (121), .newarray .int, .putfield 9, .aload_n 0, .bipush (121), .newarray .int, .putfield 15, .aload_n 0, .bipush (121), .newarray .long, .putfield 18, .aload_n 0, .bipush (121), .newarray .long, .putfield 22, .aload_n 0, .bipush (121), .newarray .int, .putfield 25, .aload_n 0, .bipush (121), .newarray .long, .putfield 28, .aload_n 0, .bipush (121), .newarray .long, .putfield 31, .aload_n 0, .sipush (242), .newarray .long, .putfield 34, .aload_n 0, .iconst (0), .putfield 37, .return_])]
def kd_93 : List (Nat × List Jvm.ClassFile.Instr) := [(0, [.aload_n 0, .getfield 37, .ireturn])]
def kd_94 : List (Nat × List Jvm.ClassFile.Instr) := [(0, [.iload_n 1, .iconst (1), .if_icmp .lt (15)]),
  (5, [.iload_n 1, .aload_n 0, .getfield 37, .if_icmp .gt (7)]),
  (13, [.iconst (1), .goto (4)]),
  (17, [.iconst (0)]),
  (18, [.ireturn])]
def kd_95 : List (Nat × List Jvm.ClassFile.Instr) := [(0, [.aload_n 0, .getfield 37, .bipush (120), .if_icmp .lt (7)]),
  (9, [.iconst (1), .goto (4)]),
  (13, [.iconst (0)]),
  (14, [.ireturn])]
def kd_96 : List (Nat × List Jvm.ClassFile.Instr) := [(0, [.aload_n 0, .dup, .getfield 37, .iconst (1), .iadd, .putfield 37, .aload_n 0, .getfield 9, .aload_n 0, .getfield 37, .iload_n 1, .iastore, .aload_n 0, .getfield 15, .aload_n 0, .getfield 37, .iload_n 2, .iastore, .aload_n 0, .getfield 18, .aload_n 0, .getfield 37, .lload_n 3, .lastore, .aload_n 0, .getfield 22, .aload_n 0, .getfield 37, .lload 5, .lastore, .aload_n 0, .getfield 25, .aload_n 0, .getfield 37, .iload 7, .iastore, .aload_n 0, .getfield 37, .ireturn])]
def kd_97 : List (Nat × List Jvm.ClassFile.Instr) := [(0, [.aload_n 0, .getfield 15, .iconst (0), .iload_n 1, .iastore, .return_])]
def kd_98 : List (Nat × List Jvm.ClassFile.Instr) := [(0, [.aload_n 0, .getfield 9, .iload_n 1, .iaload, .ireturn])]
def kd_99 : List (Nat × List Jvm.ClassFile.Instr) := [(0, [.aload_n 0, .getfield 15, .iload_n 1, .iaload, .ireturn])]
def kd_100 : List (Nat × List Jvm.ClassFile.Instr) := [(0, [.aload_n 0, .getfield 18, .iload_n 1, .laload, .lreturn])]
def kd_101 : List (Nat × List Jvm.ClassFile.Instr) := [(0, [.lconst 1, .aload_n 0, .getfield 18, .iload_n 1, .laload, .lconst 1, .aload_n 0, .getfield 25, .iload_n 1, .iaload, .i2l, .ladd, .lmul, .ldc2_w 41, .ldiv, .ladd, .l2i, .ireturn])]
def kd_102 : List (Nat × List Jvm.ClassFile.Instr) := [(0, [.aload_n 0, .getfield 34, .iload_n 1, .iconst (2), .imul, .iload_n 2, .bipush (64), .idiv, .iadd, .laload, .iload_n 2, .bipush (64), .irem, .lushr, .lconst 1, .land, .lconst 0, .lcmp, .ifCond .eq (7)]),
  (25, [.iconst (1), .goto (4)]),
  (29, [.iconst (0)]),
  (30, [.ireturn])]
def kd_103 : List (Nat × List Jvm.ClassFile.Instr) := [(0, [.aload_n 0, .getfield 34, .iload_n 1, .iconst (2), .imul, .iload_n 2, .bipush (64), .idiv, .iadd, .dup2, .laload, .lconst 1, .iload_n 2, .bipush (64), .irem, .lshl, .lxor, .lastore, .return_])]
def kd_104 : List (Nat × List Jvm.ClassFile.Instr) := [(0, [.aload_n 0, .getfield 28, .iload_n 1, .lload_n 2, .lastore, .aload_n 0, .getfield 31, .iload_n 1, .lload 4, .lastore, .return_])]
def kd_105 : List (Nat × List Jvm.ClassFile.Instr) := [(0, [.iconst (0), .istore_n 3, .iconst (1), .istore 4]),
  (5, [.iload 4, .aload_n 0, .getfield 37, .if_icmp .gt (24)]),
  (14, [.lload_n 1, .aload_n 0, .getfield 31, .iload 4, .laload, .lcmp, .ifCond .gt (6)]),
  (26, [.iinc 3 (1)]),
  (29, [.iinc 4 (1), .goto (-27)]),
  (35, [.iload_n 3, .ireturn])]
def kd_106 : List (Nat × List Jvm.ClassFile.Instr) := [(0, [.lload_n 2, .aload_n 0, .getfield 31, .iload_n 1, .laload, .lcmp, .ifCond .gt (12)]),
  (11, [.aload_n 0, .getfield 28, .iload_n 1, .laload, .goto (9)]),
  (20, [.aload_n 0, .getfield 22, .iload_n 1, .laload]),
  (26, [.lstore 4, .lload 4, .lconst 0, .lcmp, .ifCond .le (19)]),
  (35, [.ldc2_w 43, .aload_n 0, .getfield 18, .iload_n 1, .laload, .lmul, .lload 4, .ldiv, .goto (6)]),
  (51, [.ldc2_w 45]),
  (54, [.lreturn])]
def kd_107 : List (Nat × List Jvm.ClassFile.Instr) := [(0, [.aload_n 0, .invokespecial 3, .aload_n 0, .sipush (2400), .newarray .int, .putfield 9, .aload_n 0, .iconst (0), .putfield 15, .aload_n 0, .lconst 0, .putfield 19, .aload_n 0, .iconst (0), .putfield 23, .return_])]
def kd_108 : List (Nat × List Jvm.ClassFile.Instr) := [(0, [.aload_n 0, .getfield 23, .ireturn])]
def kd_109 : List (Nat × List Jvm.ClassFile.Instr) := [(0, [.aload_n 0, .getfield 15, .ireturn])]
def kd_110 : List (Nat × List Jvm.ClassFile.Instr) := [(0, [.aload_n 0, .getfield 19, .lreturn])]
def kd_111 : List (Nat × List Jvm.ClassFile.Instr) := [(0, [.iload_n 1, .ifCond .lt (23)]),
  (4, [.iload_n 1, .aload_n 0, .getfield 15, .if_icmp .ge (15)]),
  (12, [.aload_n 0, .getfield 9, .iload_n 1, .iaload, .invokestatic 27, .goto (4)]),
  (24, [.iconst (0)]),
  (25, [.ireturn])]
def kd_112 : List (Nat × List Jvm.ClassFile.Instr) := [(0, [.aload_n 0, .iconst (0), .putfield 23, .aload_n 0, .iconst (0), .putfield 15, .aload_n 0, .lconst 0, .putfield 19, .return_])]
def kd_113 : List (Nat × List Jvm.ClassFile.Instr) := [(0, [.aload_n 0, .getfield 15, .sipush (2400), .if_icmp .ge (23)]),
  (10, [.aload_n 0, .getfield 9, .aload_n 0, .getfield 15, .iload_n 1, .iastore, .aload_n 0, .dup, .getfield 15, .iconst (1), .iadd, .putfield 15]),
  (30, [.return_])]
def kd_114 : List (Nat × List Jvm.ClassFile.Instr) := [(0, [.aload_n 0, .iconst (1), .putfield 23, .aload_n 0, .lload_n 1, .putfield 19, .return_])]
def kd_115 : List (Nat × List Jvm.ClassFile.Instr) := [(0, [.iload_n 1, .ifCond .lt (20)]),
  (4, [.iload_n 1, .aload_n 0, .getfield 15, .if_icmp .ge (12)]),
  (12, [.aload_n 0, .getfield 9, .iload_n 1, .iaload, .ifCond .ge (5)]),
  (21, [.iconst (0), .ireturn]),
  (23, [.aload_n 0, .getfield 9, .iload_n 1, .aload_n 0, .getfield 9, .iload_n 1, .iaload, .ineg, .iastore, .iconst (1), .ireturn])]
def kd_116 : List (Nat × List Jvm.ClassFile.Instr) := [(0, [.aload_n 0, .getfield 15, .aload_n 1, .getfield 15, .if_icmp .eq (5)]),
  (11, [.iconst (0), .ireturn]),
  (13, [.iconst (0), .istore_n 2]),
  (15, [.iload_n 2, .aload_n 0, .getfield 15, .if_icmp .ge (24)]),
  (23, [.aload_n 0, .iload_n 2, .invokevirtual 33, .aload_n 1, .iload_n 2, .invokevirtual 33, .if_icmp .eq (5)]),
  (36, [.iconst (0), .ireturn]),
  (38, [.iinc 2 (1), .goto (-26)]),
  (44, [.iconst (1), .ireturn])]
def kd_117 : List (Nat × List Jvm.ClassFile.Instr) := [(0, [.aload_n 0, .invokespecial 3, .aload_n 0, .new 9, .dup, .invokespecial 11, .putfield 12, .aload_n 0, .bipush (121), .newarray .long, .putfield 18, .aload_n 0, .bipush (121), .newarray .int, .putfield 22, .aload_n 0, .bipush (61), .newarray .long, .putfield 26, .aload_n 0, .bipush (121), .newarray .int, .putfield 29, .aload_n 0, .bipush (21), .newarray .long, .putfield 32, .aload_n 0, .iconst (0), .putfield 35, .aload_n 0, .iconst (0), .putfield 39, .aload_n 0, .iconst (0), .putfield 42, .aload_n 0, .iconst (0), .putfield 45, .aload_n 0, .aload_n 1, .putfield 48, .aload_n 0, .aload_n 2, .putfield 52, .return_])]
def kd_118 : List (Nat × List Jvm.ClassFile.Instr) := [(0, [.aload_n 0, .iload_n 1, .putfield 35, .aload_n 0, .iload_n 2, .putfield 39, .aload_n 0, .iload_n 3, .putfield 42, .aload_n 0, .iload 4, .putfield 45, .aload_n 0, .getfield 52, .iload_n 1, .invokevirtual 56, .return_])]
def kd_119 : List (Nat × List Jvm.ClassFile.Instr) := [(0, [.iconst (1), .istore_n 3]),
  (2, [.iload_n 3, .aload_n 0, .getfield 48, .invokevirtual 62, .if_icmp .gt (39)]),
  (13, [.aload_n 0, .getfield 26, .iload_n 3, .aload_n 0, .getfield 42, .iconst (2), .if_icmp .ne (18)]),
  (26, [.aload_n 0, .getfield 48, .iload_n 3, .invokevirtual 68, .ldc2_w 72, .lmul, .goto (4)]),
  (41, [.lconst 0]),
  (42, [.lastore, .iinc 3 (1), .goto (-44)]),
  (49, [.iconst (1), .istore_n 3]),
  (51, [.iload_n 3, .aload_n 0, .getfield 52, .invokevirtual 74, .if_icmp .gt (98)]),
  (62, [.aload_n 0, .getfield 52, .iload_n 3, .lload_n 1, .invokevirtual 75, .lstore 4, .aload_n 0, .getfield 42, .iconst (1), .if_icmp .ne (14)]),
  (81, [.aload_n 0, .getfield 52, .iload_n 3, .invokevirtual 79, .goto (5)]),
  (92, [.lload 4]),
  (94, [.lstore 6, .aload_n 0, .getfield 18, .iload_n 3, .lload 4, .ldc2_w 82, .lcmp, .ifCond .ne (9)]),
  (110, [.ldc2_w 82, .goto (11)]),
  (116, [.lload 6, .ldc2_w 72, .lmul, .lconst 1, .ladd]),
  (124, [.lastore, .aload_n 0, .getfield 22, .iload_n 3, .aload_n 0, .getfield 42, .iconst (2), .if_icmp .ne (14)]),
  (138, [.aload_n 0, .getfield 52, .iload_n 3, .invokevirtual 84, .goto (4)]),
  (149, [.iconst (0)]),
  (150, [.iastore, .iinc 3 (1), .goto (-103)]),
  (157, [.return_])]
def kd_120 : List (Nat × List Jvm.ClassFile.Instr) := [(0, [.aload_n 1, .invokevirtual 88, .aload_n 0, .getfield 35, .aload_n 0, .getfield 39, .if_icmp .ne (10)]),
  (15, [.aload_n 1, .lconst 0, .invokevirtual 93, .iconst (1), .ireturn]),
  (22, [.aload_n 0, .invokevirtual 97, .aload_n 0, .getfield 12, .aload_n 0, .invokevirtual 100, .invokevirtual 103, .lstore_n 2, .lload_n 2, .ldc2_w 106, .lcmp, .ifCond .lt (5)]),
  (46, [.iconst (0), .ireturn]),
  (48, [.aload_n 0, .aload_n 1, .lload_n 2, .invokevirtual 108, .aload_n 1, .lload_n 2, .ldc2_w 72, .ldiv, .invokevirtual 93, .iconst (1), .ireturn])]
def kd_121 : List (Nat × List Jvm.ClassFile.Instr) := [(0, [.aload_n 0, .invokevirtual 112, .iconst (0), .istore_n 2, .iconst (0), .istore_n 3]),
  (8, [.iload_n 3, .aload_n 1, .invokevirtual 115, .if_icmp .ge (51)]),
  (16, [.aload_n 1, .iload_n 3, .invokevirtual 118, .istore 4, .aload_n 0, .iload_n 2, .iload 4, .invokevirtual 121, .ifCond .ne (7)]),
  (33, [.ldc2_w 82, .lreturn]),
  (37, [.aload_n 0, .aload_n 0, .getfield 52, .iload_n 2, .invokevirtual 125, .invokevirtual 128, .aload_n 0, .iload 4, .invokevirtual 131, .iload 4, .istore_n 2, .iinc 3 (1), .goto (-53)]),
  (64, [.aload_n 0, .invokevirtual 134, .lstore_n 3, .lload_n 3, .ldc2_w 106, .lcmp, .ifCond .lt (9)]),
  (77, [.ldc2_w 82, .goto (8)]),
  (83, [.lload_n 3, .ldc2_w 72, .ldiv]),
  (88, [.lreturn])]
def kd_122 : List (Nat × List Jvm.ClassFile.Instr) := [(0, [.aload_n 0, .getfield 42, .iconst (2), .if_icmp .eq (5)]),
  (8, [.iconst (0), .ireturn]),
  (10, [.aload_n 0, .invokevirtual 138, .iconst (0), .istore_n 1, .lconst 0, .lstore_n 2, .iconst (1), .istore 4]),
  (21, [.iload 4, .aload_n 0, .getfield 48, .invokevirtual 62, .if_icmp .gt (62)]),
  (33, [.aload_n 0, .getfield 48, .iload 4, .invokevirtual 141, .ifCond .eq (44)]),
  (45, [.aload_n 0, .iload 4, .invokevirtual 145, .ifCond .eq (35)]),
  (54, [.aload_n 0, .getfield 48, .iload 4, .aload_n 0, .getfield 39, .invokevirtual 148, .lstore 5, .iload_n 1, .ifCond .eq (10)]),
  (73, [.lload 5, .lload_n 2, .lcmp, .ifCond .ge (9)]),
  (80, [.iload 4, .istore_n 1, .lload 5, .lstore_n 2]),
  (86, [.iinc 4 (1), .goto (-68)]),
  (92, [.iload_n 1, .ireturn])]
def kd_123 : List (Nat × List Jvm.ClassFile.Instr) := [(0, [.aload_n 0, .getfield 42, .iconst (2), .if_icmp .ne (8)]),
  (8, [.bipush (21), .goto (4)]),
  (13, [.iconst (1)]),
  (14, [.ireturn])]
def kd_124 : List (Nat × List Jvm.ClassFile.Instr) := [(0, [.aload_n 0, .getfield 45, .ireturn])]
def kd_125 : List (Nat × List Jvm.ClassFile.Instr) := [(0, [.aload_n 0, .getfield 18, .iload_n 2, .laload, .ldc2_w 82, .lcmp, .ifCond .eq (38)]),
  (13, [.aload_n 0, .getfield 52, .iload_n 2, .invokevirtual 152, .aload_n 0, .getfield 52, .iload_n 1, .invokevirtual 125, .if_icmp .ne (19)]),
  (32, [.aload_n 0, .getfield 52, .iload_n 1, .iload_n 2, .invokevirtual 155, .ifCond .ne (7)]),
  (44, [.iconst (1), .goto (4)]),
  (48, [.iconst (0)]),
  (49, [.ireturn])]
def kd_126 : List (Nat × List Jvm.ClassFile.Instr) := [(0, [.aload_n 0, .invokevirtual 158, .istore_n 1, .aload_n 0, .getfield 52, .invokevirtual 74, .iconst (1), .iadd, .iload_n 1, .imul, .istore_n 2, .aload_n 0, .getfield 12, .iload_n 2, .invokevirtual 161, .iconst (1), .istore_n 3]),
  (27, [.iload_n 3, .aload_n 0, .getfield 52, .invokevirtual 74, .if_icmp .gt (53)]),
  (38, [.iconst (0), .istore 4]),
  (41, [.iload 4, .iload_n 1, .if_icmp .ge (38)]),
  (47, [.aload_n 0, .getfield 52, .iload_n 3, .invokevirtual 125, .aload_n 0, .getfield 39, .if_icmp .ne (23)]),
  (62, [.aload_n 0, .getfield 12, .iload_n 3, .iload_n 1, .imul, .iload 4, .iadd, .lconst 0, .invokevirtual 164, .iinc 4 (1), .goto (-38)]),
  (82, [.iinc 3 (1), .goto (-58)]),
  (88, [.iconst (0), .istore_n 3]),
  (90, [.iload_n 3, .iload_n 2, .if_icmp .ge (54)]),
  (95, [.aload_n 0, .getfield 12, .invokevirtual 168, .istore 4, .iload 4, .ifCond .lt (12)]),
  (109, [.iload 4, .aload_n 0, .invokevirtual 100, .if_icmp .ne (4)]),
  (118, [.return_]),
  (119, [.aload_n 0, .iload 4, .iload_n 1, .idiv, .iload 4, .iload_n 1, .irem, .aload_n 0, .getfield 12, .iload 4, .invokevirtual 103, .invokevirtual 171, .iinc 3 (1), .goto (-53)]),
  (146, [.return_])]
def kd_127 : List (Nat × List Jvm.ClassFile.Instr) := [(0, [.aload_n 0, .invokevirtual 158, .istore 5, .aload_n 0, .getfield 26, .aload_n 0, .getfield 52, .iload_n 1, .invokevirtual 125, .laload, .lstore 6, .iload_n 2, .ifCond .le (29)]),
  (25, [.lload 6, .lconst 0, .lcmp, .ifCond .le (22)]),
  (32, [.aload_n 0, .getfield 12, .iload_n 1, .iload 5, .imul, .iload_n 2, .iadd, .iconst (1), .isub, .lload_n 3, .lload 6, .ladd, .invokevirtual 164]),
  (51, [.iload_n 2, .aload_n 0, .getfield 22, .iload_n 1, .iaload, .iadd, .istore 8, .iload_n 1, .ifCond .eq (10)]),
  (65, [.iload 8, .iload 5, .if_icmp .lt (4)]),
  (72, [.return_]),
  (73, [.iconst (0), .istore 9]),
  (76, [.iload 9, .aload_n 0, .getfield 52, .invokevirtual 74, .if_icmp .gt (42)]),
  (88, [.aload_n 0, .iload 9, .iload_n 1, .invokevirtual 121, .ifCond .eq (26)]),
  (98, [.aload_n 0, .getfield 12, .iload 9, .iload 5, .imul, .iload 8, .iadd, .lload_n 3, .aload_n 0, .getfield 18, .iload_n 1, .laload, .ladd, .invokevirtual 164]),
  (121, [.iinc 9 (1), .goto (-48)]),
  (127, [.return_])]
def kd_128 : List (Nat × List Jvm.ClassFile.Instr) := [(0, [.aload_n 0, .invokevirtual 112, .iconst (0), .istore 4, .iconst (0), .istore 5]),
  (10, [.iload 5, .sipush (2400), .if_icmp .ge (69)]),
  (18, [.aload_n 0, .getfield 52, .iload 4, .invokevirtual 125, .aload_n 0, .getfield 39, .if_icmp .eq (53)]),
  (34, [.aload_n 0, .aload_n 0, .getfield 52, .iload 4, .invokevirtual 125, .invokevirtual 128, .aload_n 0, .iload 4, .lload_n 2, .invokevirtual 175, .istore 6, .iload 6, .ifCond .ne (4)]),
  (61, [.return_]),
  (62, [.aload_n 0, .iload 6, .invokevirtual 131, .aload_n 1, .iload 6, .invokevirtual 179, .iload 6, .istore 4, .iinc 5 (1), .goto (-71)]),
  (84, [.return_])]
def kd_129 : List (Nat × List Jvm.ClassFile.Instr) := [(0, [.iconst (1), .istore 4]),
  (3, [.iload 4, .aload_n 0, .getfield 52, .invokevirtual 74, .if_icmp .gt (32)]),
  (15, [.aload_n 0, .iload_n 1, .iload 4, .invokevirtual 121, .ifCond .eq (16)]),
  (25, [.aload_n 0, .iload 4, .lload_n 2, .invokevirtual 182, .ifCond .eq (6)]),
  (35, [.iload 4, .ireturn]),
  (38, [.iinc 4 (1), .goto (-38)]),
  (44, [.iconst (0), .ireturn])]
def kd_130 : List (Nat × List Jvm.ClassFile.Instr) := [(0, [.aload_n 0, .invokevirtual 158, .istore 4, .aload_n 0, .getfield 22, .iload_n 1, .iaload, .istore 5]),
  (14, [.iload 5, .iload 4, .if_icmp .ge (56)]),
  (21, [.aload_n 0, .getfield 12, .iload_n 1, .iload 4, .imul, .iload 5, .iadd, .aload_n 0, .getfield 22, .iload_n 1, .iaload, .isub, .invokevirtual 103, .lstore 6, .aload_n 0, .getfield 32, .iload 5, .laload, .aload_n 0, .getfield 18, .iload_n 1, .laload, .ladd, .lload 6, .ladd, .lload_n 2, .lcmp, .ifCond .ne (5)]),
  (66, [.iconst (1), .ireturn]),
  (68, [.iinc 5 (1), .goto (-57)]),
  (74, [.iconst (0), .ireturn])]
def kd_131 : List (Nat × List Jvm.ClassFile.Instr) := [(0, [.iconst (0), .istore_n 1]),
  (2, [.iload_n 1, .bipush (21), .if_icmp .ge (18)]),
  (8, [.aload_n 0, .getfield 32, .iload_n 1, .ldc2_w 106, .lastore, .iinc 1 (1), .goto (-18)]),
  (23, [.aload_n 0, .getfield 32, .aload_n 0, .getfield 45, .lconst 0, .lastore, .return_])]
def kd_132 : List (Nat × List Jvm.ClassFile.Instr) := [(0, [.aload_n 0, .getfield 26, .iload_n 1, .laload, .lstore_n 2, .lload_n 2, .lconst 0, .lcmp, .ifCond .ne (4)]),
  (13, [.return_]),
  (14, [.iconst (0), .istore 4]),
  (17, [.iload 4, .bipush (20), .if_icmp .ge (39)]),
  (24, [.aload_n 0, .getfield 32, .iload 4, .iconst (1), .iadd, .aload_n 0, .getfield 32, .iload 4, .iconst (1), .iadd, .laload, .aload_n 0, .getfield 32, .iload 4, .laload, .lload_n 2, .ladd, .invokestatic 186, .lastore, .iinc 4 (1), .goto (-40)]),
  (60, [.return_])]
def kd_133 : List (Nat × List Jvm.ClassFile.Instr) := [(0, [.iconst (0), .istore_n 2]),
  (2, [.iload_n 2, .bipush (21), .if_icmp .ge (62)]),
  (8, [.iload_n 2, .aload_n 0, .getfield 22, .iload_n 1, .iaload, .iadd, .istore_n 3, .aload_n 0, .getfield 32, .iload_n 2, .iload_n 3, .bipush (21), .if_icmp .ge (32)]),
  (28, [.aload_n 0, .getfield 32, .iload_n 3, .laload, .ldc2_w 106, .lcmp, .ifCond .ge (19)]),
  (41, [.aload_n 0, .getfield 32, .iload_n 3, .laload, .aload_n 0, .getfield 18, .iload_n 1, .laload, .ladd, .goto (6)]),
  (57, [.ldc2_w 106]),
  (60, [.lastore, .iinc 2 (1), .goto (-62)]),
  (67, [.return_])]
def kd_134 : List (Nat × List Jvm.ClassFile.Instr) := [(0, [.ldc2_w 106, .lstore_n 1, .iconst (0), .istore_n 3]),
  (6, [.iload_n 3, .bipush (21), .if_icmp .ge (20)]),
  (12, [.lload_n 1, .aload_n 0, .getfield 32, .iload_n 3, .laload, .invokestatic 186, .lstore_n 1, .iinc 3 (1), .goto (-20)]),
  (29, [.lload_n 1, .lreturn])]
def kd_135 : List (Nat × List Jvm.ClassFile.Instr) := [(0, [.aload_n 0, .getfield 29, .iconst (0), .aload_n 0, .aload_n 0, .getfield 35, .aload_n 0, .getfield 45, .invokevirtual 192, .iastore, .iconst (1), .istore_n 1]),
  (20, [.iload_n 1, .aload_n 0, .getfield 52, .invokevirtual 74, .if_icmp .gt (16)]),
  (31, [.aload_n 0, .getfield 29, .iload_n 1, .iconst (-1), .iastore, .iinc 1 (1), .goto (-21)]),
  (44, [.iconst (1), .istore_n 1, .iconst (0), .istore_n 2]),
  (48, [.iload_n 1, .ifCond .eq (56)]),
  (52, [.iload_n 2, .sipush (2400), .if_icmp .gt (49)]),
  (59, [.iconst (0), .istore_n 1, .iconst (0), .istore_n 3]),
  (63, [.iload_n 3, .aload_n 0, .getfield 52, .invokevirtual 74, .if_icmp .gt (28)]),
  (74, [.aload_n 0, .getfield 29, .iload_n 3, .iaload, .ifCond .lt (13)]),
  (83, [.aload_n 0, .iload_n 3, .invokevirtual 196, .ifCond .eq (5)]),
  (91, [.iconst (1), .istore_n 1]),
  (93, [.iinc 3 (1), .goto (-33)]),
  (99, [.iinc 2 (1), .goto (-54)]),
  (105, [.return_])]
def kd_136 : List (Nat × List Jvm.ClassFile.Instr) := [(0, [.iconst (0), .istore_n 2, .iconst (1), .istore_n 3]),
  (4, [.iload_n 3, .aload_n 0, .getfield 52, .invokevirtual 74, .if_icmp .gt (81)]),
  (15, [.aload_n 0, .iload_n 1, .iload_n 3, .invokevirtual 121, .ifCond .eq (66)]),
  (24, [.aload_n 0, .getfield 29, .iload_n 1, .iaload, .aload_n 0, .getfield 22, .iload_n 3, .iaload, .if_icmp .lt (51)]),
  (39, [.aload_n 0, .aload_n 0, .getfield 52, .iload_n 3, .invokevirtual 125, .aload_n 0, .getfield 29, .iload_n 1, .iaload, .aload_n 0, .getfield 22, .iload_n 3, .iaload, .isub, .invokevirtual 192, .istore 4, .iload 4, .aload_n 0, .getfield 29, .iload_n 3, .iaload, .if_icmp .le (13)]),
  (77, [.aload_n 0, .getfield 29, .iload_n 3, .iload 4, .iastore, .iconst (1), .istore_n 2]),
  (87, [.iinc 3 (1), .goto (-86)]),
  (93, [.iload_n 2, .ireturn])]
def kd_137 : List (Nat × List Jvm.ClassFile.Instr) := [(0, [.aload_n 0, .getfield 48, .iload_n 1, .invokevirtual 141, .ifCond .eq (8)]),
  (11, [.bipush (20), .goto (4)]),
  (16, [.iload_n 2]),
  (17, [.ireturn])]
def kd_138 : List (Nat × List Jvm.ClassFile.Instr) := [(0, [.iconst (0), .istore_n 2]),
  (2, [.iload_n 2, .aload_n 0, .getfield 52, .invokevirtual 74, .if_icmp .gt (32)]),
  (13, [.aload_n 0, .getfield 29, .iload_n 2, .iaload, .ifCond .lt (17)]),
  (22, [.aload_n 0, .getfield 52, .iload_n 2, .invokevirtual 125, .iload_n 1, .if_icmp .ne (5)]),
  (34, [.iconst (1), .ireturn]),
  (36, [.iinc 2 (1), .goto (-37)]),
  (42, [.iconst (0), .ireturn])]
def kd_139 : List (Nat × List Jvm.ClassFile.Instr) := [(0, [.aload 8, .iconst (0), .aload_n 0, .iload_n 1, .iload_n 2, .lload_n 3, .lload 5, .iload 7, .invokevirtual 7, .i2l, .lastore, .goto (7)]),
  (19, [.astore 9, .iconst (1), .ireturn]),
  (23, [.iconst (0), .ireturn])]
def kd_140 : List (Nat × List Jvm.ClassFile.Instr) := [(0, [.new 8, .dup, .invokespecial 15, .astore_n 1, .new 16, .dup, .invokespecial 18, .astore_n 2, .iconst (1), .newarray .long, .astore_n 3, .iconst (0), .istore 4]),
  (23, [.iload 4, .aload_n 0, .arraylength, .bipush (8), .isub, .if_icmp .gt (1022)]),
  (33, [.aload_n 0, .iload 4, .iaload, .bipush (15), .iand, .tableswitch (1006) (0) (13) #[(72), (173), (345), (410), (479), (572), (597), (611), (724), (837), (894), (931), (956), (969)]]),
  (112, [.aload_n 1, .aload_n 0, .iload 4, .iconst (1), .iadd, .iaload, .i2l, .bipush (32), .lshl, .aload_n 0, .iload 4, .iconst (2), .iadd, .iaload, .i2l, .ldc2_w 19, .land, .lor, .aload_n 0, .iload 4, .iconst (3), .iadd, .iaload, .i2l, .bipush (32), .lshl, .aload_n 0, .iload 4, .iconst (4), .iadd, .iaload, .i2l, .ldc2_w 19, .land, .lor, .invokevirtual 21, .aload_n 2, .aload_n 0, .iload 4, .iconst (1), .iadd, .iaload, .i2l, .bipush (32), .lshl, .aload_n 0, .iload 4, .iconst (2), .iadd, .iaload, .i2l, .ldc2_w 19, .land, .lor, .aload_n 0, .iload 4, .iconst (3), .iadd, .iaload, .i2l, .bipush (32), .lshl, .aload_n 0, .iload 4, .iconst (4), .iadd, .iaload, .i2l, .ldc2_w 19, .land, .lor, .invokevirtual 25, .if_icmp .eq (838)]),
  (211, [.iconst (0), .ireturn]),
  (213, [.aload_n 1, .aload_n 0, .iload 4, .iconst (1), .iadd, .iaload, .aload_n 0, .iload 4, .iconst (2), .iadd, .iaload, .aload_n 0, .iload 4, .iconst (3), .iadd, .iaload, .i2l, .bipush (32), .lshl, .aload_n 0, .iload 4, .iconst (4), .iadd, .iaload, .i2l, .ldc2_w 19, .land, .lor, .aload_n 0, .iload 4, .iconst (5), .iadd, .iaload, .i2l, .bipush (32), .lshl, .aload_n 0, .iload 4, .bipush (6), .iadd, .iaload, .i2l, .ldc2_w 19, .land, .lor, .aload_n 0, .iload 4, .bipush (7), .iadd, .iaload, .aload_n 3, .invokestatic 26, .istore 5, .aload_n 2, .aload_n 0, .iload 4, .iconst (1), .iadd, .iaload, .aload_n 0, .iload 4, .iconst (2), .iadd, .iaload, .aload_n 0, .iload 4, .iconst (3), .iadd, .iaload, .i2l, .bipush (32), .lshl, .aload_n 0, .iload 4, .iconst (4), .iadd, .iaload, .i2l, .ldc2_w 19, .land, .lor, .aload_n 0, .iload 4, .iconst (5), .iadd, .iaload, .i2l, .bipush (32), .lshl, .aload_n 0, .iload 4, .bipush (6), .iadd, .iaload, .i2l, .ldc2_w 19, .land, .lor, .aload_n 0, .iload 4, .bipush (7), .iadd, .iaload, .invokevirtual 31, .istore 6, .aload_n 2, .invokevirtual 32, .iload 5, .if_icmp .eq (5)]),
  (363, [.iconst (0), .ireturn]),
  (365, [.iload 5, .ifCond .ne (15)]),
  (370, [.aload_n 3, .iconst (0), .laload, .iload 6, .i2l, .lcmp, .ifCond .eq (5)]),
  (380, [.iconst (0), .ireturn]),
  (382, [.goto (664)]),
  (385, [.aload_n 1, .aload_n 0, .iload 4, .iconst (1), .iadd, .iaload, .aload_n 0, .iload 4, .iconst (2), .iadd, .iaload, .aload_n 0, .iload 4, .iconst (3), .iadd, .iaload, .ifCond .eq (7)]),
  (407, [.iconst (1), .goto (4)]),
  (411, [.iconst (0)]),
  (412, [.invokevirtual 36, .aload_n 2, .aload_n 0, .iload 4, .iconst (1), .iadd, .iaload, .aload_n 0, .iload 4, .iconst (2), .iadd, .iaload, .aload_n 0, .iload 4, .iconst (3), .iadd, .iaload, .ifCond .eq (7)]),
  (437, [.iconst (1), .goto (4)]),
  (441, [.iconst (0)]),
  (442, [.invokevirtual 40, .if_icmp .eq (601)]),
  (448, [.iconst (0), .ireturn]),
  (450, [.aload_n 1, .aload_n 0, .iload 4, .iconst (1), .iadd, .iaload, .aload_n 0, .iload 4, .iconst (2), .iadd, .iaload, .i2l, .bipush (32), .lshl, .aload_n 0, .iload 4, .iconst (3), .iadd, .iaload, .i2l, .ldc2_w 19, .land, .lor, .invokevirtual 41, .aload_n 2, .aload_n 0, .iload 4, .iconst (1), .iadd, .iaload, .aload_n 0, .iload 4, .iconst (2), .iadd, .iaload, .i2l, .bipush (32), .lshl, .aload_n 0, .iload 4, .iconst (3), .iadd, .iaload, .i2l, .ldc2_w 19, .land, .lor, .invokevirtual 45, .if_icmp .eq (532)]),
  (517, [.iconst (0), .ireturn]),
  (519, [.aload_n 1, .aload_n 0, .iload 4, .iconst (1), .iadd, .iaload, .aload_n 0, .iload 4, .iconst (2), .iadd, .iaload, .aload_n 0, .iload 4, .iconst (3), .iadd, .iaload, .aload_n 0, .iload 4, .iconst (4), .iadd, .iaload, .i2l, .bipush (32), .lshl, .aload_n 0, .iload 4, .iconst (5), .iadd, .iaload, .i2l, .ldc2_w 19, .land, .lor, .invokevirtual 46, .aload_n 2, .aload_n 0, .iload 4, .iconst (1), .iadd, .iaload, .aload_n 0, .iload 4, .iconst (2), .iadd, .iaload, .aload_n 0, .iload 4, .iconst (3), .iadd, .iaload, .aload_n 0, .iload 4, .iconst (4), .iadd, .iaload, .i2l, .bipush (32), .lshl, .aload_n 0, .iload 4, .iconst (5), .iadd, .iaload, .i2l, .ldc2_w 19, .land, .lor, .invokevirtual 50, .if_icmp .eq (439)]),
  (610, [.iconst (0), .ireturn]),
  (612, [.aload_n 1, .aload_n 0, .iload 4, .iconst (1), .iadd, .iaload, .invokevirtual 51, .aload_n 2, .aload_n 0, .iload 4, .iconst (1), .iadd, .iaload, .invokevirtual 55, .if_icmp .eq (414)]),
  (635, [.iconst (0), .ireturn]),
  (637, [.aload_n 1, .invokevirtual 56, .aload_n 2, .invokevirtual 60, .lcmp, .ifCond .eq (400)]),
  (649, [.iconst (0), .ireturn]),
  (651, [.aload_n 1, .aload_n 0, .iload 4, .iconst (1), .iadd, .iaload, .i2l, .bipush (32), .lshl, .aload_n 0, .iload 4, .iconst (2), .iadd, .iaload, .i2l, .ldc2_w 19, .land, .lor, .aload_n 0, .iload 4, .iconst (3), .iadd, .iaload, .i2l, .bipush (32), .lshl, .aload_n 0, .iload 4, .iconst (4), .iadd, .iaload, .i2l, .ldc2_w 19, .land, .lor, .aload_n 0, .iload 4, .iconst (5), .iadd, .iaload, .invokevirtual 61, .aload_n 2, .aload_n 0, .iload 4, .iconst (1), .iadd, .iaload, .i2l, .bipush (32), .lshl, .aload_n 0, .iload 4, .iconst (2), .iadd, .iaload, .i2l, .ldc2_w 19, .land, .lor, .aload_n 0, .iload 4, .iconst (3), .iadd, .iaload, .i2l, .bipush (32), .lshl, .aload_n 0, .iload 4, .iconst (4), .iadd, .iaload, .i2l, .ldc2_w 19, .land, .lor, .aload_n 0, .iload 4, .iconst (5), .iadd, .iaload, .invokevirtual 65, .if_icmp .eq (287)]),
  (762, [.iconst (0), .ireturn]),
  (764, [.aload_n 1, .aload_n 0, .iload 4, .iconst (1), .iadd, .iaload, .aload_n 0, .iload 4, .iconst (2), .iadd, .iaload, .i2l, .bipush (32), .lshl, .aload_n 0, .iload 4, .iconst (3), .iadd, .iaload, .i2l, .ldc2_w 19, .land, .lor, .aload_n 0, .iload 4, .iconst (4), .iadd, .iaload, .i2l, .bipush (32), .lshl, .aload_n 0, .iload 4, .iconst (5), .iadd, .iaload, .i2l, .ldc2_w 19, .land, .lor, .invokevirtual 66, .aload_n 2, .aload_n 0, .iload 4, .iconst (1), .iadd, .iaload, .aload_n 0, .iload 4, .iconst (2), .iadd, .iaload, .i2l, .bipush (32), .lshl, .aload_n 0, .iload 4, .iconst (3), .iadd, .iaload, .i2l, .ldc2_w 19, .land, .lor, .aload_n 0, .iload 4, .iconst (4), .iadd, .iaload, .i2l, .bipush (32), .lshl, .aload_n 0, .iload 4, .iconst (5), .iadd, .iaload, .i2l, .ldc2_w 19, .land, .lor, .invokevirtual 70, .if_icmp .eq (174)]),
  (875, [.iconst (0), .ireturn]),
  (877, [.aload_n 1, .aload_n 0, .iload 4, .iconst (1), .iadd, .iaload, .i2l, .bipush (32), .lshl, .aload_n 0, .iload 4, .iconst (2), .iadd, .iaload, .i2l, .ldc2_w 19, .land, .lor, .invokevirtual 71, .aload_n 2, .aload_n 0, .iload 4, .iconst (1), .iadd, .iaload, .i2l, .bipush (32), .lshl, .aload_n 0, .iload 4, .iconst (2), .iadd, .iaload, .i2l, .ldc2_w 19, .land, .lor, .invokevirtual 75, .if_icmp .eq (117)]),
  (932, [.iconst (0), .ireturn]),
  (934, [.aload_n 1, .aload_n 0, .iload 4, .iconst (1), .iadd, .iaload, .aload_n 0, .iload 4, .iconst (2), .iadd, .iaload, .invokevirtual 76, .aload_n 2, .aload_n 0, .iload 4, .iconst (1), .iadd, .iaload, .aload_n 0, .iload 4, .iconst (2), .iadd, .iaload, .invokevirtual 80, .if_icmp .eq (80)]),
  (969, [.iconst (0), .ireturn]),
  (971, [.aload_n 1, .aload_n 0, .iload 4, .iconst (1), .iadd, .iaload, .invokevirtual 81, .aload_n 2, .aload_n 0, .iload 4, .iconst (1), .iadd, .iaload, .invokevirtual 84, .if_icmp .eq (55)]),
  (994, [.iconst (0), .ireturn]),
  (996, [.aload_n 1, .invokevirtual 85, .aload_n 2, .invokevirtual 88, .if_icmp .eq (42)]),
  (1007, [.iconst (0), .ireturn]),
  (1009, [.aload_n 1, .aload_n 0, .iload 4, .iconst (1), .iadd, .iaload, .aload_n 0, .iload 4, .iconst (2), .iadd, .iaload, .invokevirtual 89, .aload_n 2, .aload_n 0, .iload 4, .iconst (1), .iadd, .iaload, .aload_n 0, .iload 4, .iconst (2), .iadd, .iaload, .invokevirtual 92, .if_icmp .eq (5)]),
  (1044, [.iconst (0), .ireturn]),
  (1046, [.iinc 4 (8), .goto (-1026)]),
  (1052, [.iconst (1), .ireturn])]
def am_kdL : List (List (Nat × List Jvm.ClassFile.Instr)) := [kd_0, kd_1, kd_2, kd_3, kd_4, kd_5, kd_6, kd_7, kd_8, kd_9, kd_10, kd_11, kd_12, kd_13, kd_14, kd_15, kd_16, kd_17, kd_18, kd_19, kd_20, kd_21, kd_22, kd_23, kd_24, kd_25, kd_26, kd_27, kd_28, kd_29, kd_30, kd_31, kd_32, kd_33, kd_34, kd_35, kd_36, kd_37, kd_38, kd_39, kd_40, kd_41, kd_42, kd_43, kd_44, kd_45, kd_46, kd_47, kd_48, kd_49, kd_50, kd_51, kd_52, kd_53, kd_54, kd_55, kd_56, kd_57, kd_58, kd_59, kd_60, kd_61, kd_62, kd_63, kd_64, kd_65, kd_66, kd_67, kd_68, kd_69, kd_70, kd_71, kd_72, kd_73, kd_74, kd_75, kd_76, kd_77, kd_78, kd_79, kd_80, kd_81, kd_82, kd_83, kd_84, kd_85, kd_86, kd_87, kd_88, kd_89, kd_90, kd_91, kd_92, kd_93, kd_94, kd_95, kd_96, kd_97, kd_98, kd_99, kd_100, kd_101, kd_102, kd_103, kd_104, kd_105, kd_106, kd_107, kd_108, kd_109, kd_110, kd_111, kd_112, kd_113, kd_114, kd_115, kd_116, kd_117, kd_118, kd_119, kd_120, kd_121, kd_122, kd_123, kd_124, kd_125, kd_126, kd_127, kd_128, kd_129, kd_130, kd_131, kd_132, kd_133, kd_134, kd_135, kd_136, kd_137, kd_138, kd_139, kd_140]
def am_kd (j : Nat) : List (Nat × List Jvm.ClassFile.Instr) := am_kdL.getD j []
end
section
/-! THE ABSTRACT MACHINE. Its heap: how many cells, their layout (0 int[], 1 boolean[], 2 long[], c + 3 an object of class c; a length), the ints, the longs and the references (0 null, k + 1 the cell k) by cell and place. Its locals: a list. -/
abbrev am_L : Type := List (Option Value)
abbrev am_H : Type := Nat × (Nat → Nat × Nat) × (Nat → Nat → Int32) × (Nat → Nat → Int64) × (Nat → Nat → Nat)
abbrev am_U : Type := Nat × Nat
abbrev am_S : Type := am_L × List Value × am_H × am_U
abbrev am_X : Type := Nat → am_L → List Value → am_H → am_U → Prop
abbrev am_C : Type := Nat → List Value → am_H → (Option Value → am_H → Prop) → Prop
/-- what an instruction does: it goes on, it jumps, it calls (method, arguments, the rest of the stack), it returns -/
abbrev am_O : Type := am_S ⊕ (Nat × am_S) ⊕ (Nat × List Value × am_S) ⊕ (Option Value × am_H)
def am_up {α : Type} (f : Nat → Nat → α) (a j : Nat) (v : α) : Nat → Nat → α := fun b i => if b = a ∧ i = j then v else f b i
def am_ty (h : am_H) (a : Nat) : Option Nat := if a < h.1 then some (h.2.1 a).1 else none
def am_sz (h : am_H) (a : Nat) : Nat := (h.2.1 a).2
def am_pi (h : am_H) (a j : Nat) (v : Int32) : am_H := (h.1, h.2.1, am_up h.2.2.1 a j v, h.2.2.2.1, h.2.2.2.2)
def am_pl (h : am_H) (a j : Nat) (v : Int64) : am_H := (h.1, h.2.1, h.2.2.1, am_up h.2.2.2.1 a j v, h.2.2.2.2)
def am_pr (h : am_H) (a j : Nat) (v : Nat) : am_H := (h.1, h.2.1, h.2.2.1, h.2.2.2.1, am_up h.2.2.2.2 a j v)
def am_nw (h : am_H) (c n : Nat) : am_H := (h.1 + 1, fun k => if k = h.1 then (c, n) else h.2.1 k, fun k j => if k = h.1 then 0 else h.2.2.1 k j, fun k j => if k = h.1 then 0 else h.2.2.2.1 k j, fun k j => if k = h.1 then 0 else h.2.2.2.2 k j)
def am_rv (r : Nat) : Value := match r with
  | 0 => .null
  | k + 1 => .ref k
/-- a field's value -/
def am_fv (h : am_H) (c k a : Nat) : Value := match am_ft c k with
  | 0 => .int (h.2.2.1 a k)
  | 1 => .int (h.2.2.1 a k)
  | 2 => .long (h.2.2.2.1 a k)
  | _ => am_rv (h.2.2.2.2 a k)
/-- a field's new value: what must hold, and the heap then -/
def am_fp (h : am_H) (c k a : Nat) (v : Value) : Option (Prop × am_H) := match am_ft c k, v with
  | 0, .int x => some (True, am_pi h a k x)
  | 1, .int x => some (x = 0 ∨ x = 1, am_pi h a k x)
  | 2, .long x => some (True, am_pl h a k x)
  | 3, .ref r => some (r < h.1, am_pr h a k (r + 1))
  | _, _ => none
-- the locals
def am_lk : am_L → Nat → Option Value
  | [], _ => none
  | x :: _, 0 => x
  | _ :: t, n + 1 => am_lk t n
def am_kl (x : Option Value) : Option Value := match x with
  | some v => if v.category = 2 then none else some v
  | none => none
def am_s1 : am_L → Nat → Value → am_L
  | [], _, _ => []
  | _ :: t, 0, v => some v :: t
  | x :: t, 1, v => am_kl x :: am_s1 t 0 v
  | x :: t, n + 2, v => x :: am_s1 t (n + 1) v
def am_s2 : am_L → Nat → Value → am_L
  | [], _, _ => []
  | [_], 0, v => [some v]
  | _ :: _ :: t, 0, v => some v :: none :: t
  | x :: t, 1, v => am_kl x :: am_s2 t 0 v
  | x :: t, n + 2, v => x :: am_s2 t (n + 1) v
def am_le (l l' : am_L) : Prop := ∀ i v, am_lk l i = some v → am_lk l' i = some v
def am_sp : List Value → am_L
  | [] => []
  | v :: vs => if v.category = 2 then some v :: none :: am_sp vs else some v :: am_sp vs
def am_en (j : Nat) (as : List Value) : am_L := am_sp as ++ List.replicate (am_mL j - (am_sp as).length) none
-- the operands
def am_o1 (st : List Value) (f : Int32 → List Value → Option (Prop × am_O)) : Option (Prop × am_O) := match st with
  | .int x :: r => f x r
  | _ => none
def am_o2 (st : List Value) (f : Int32 → Int32 → List Value → Option (Prop × am_O)) : Option (Prop × am_O) := match st with
  | .int y :: .int x :: r => f x y r
  | _ => none
def am_l1 (st : List Value) (f : Int64 → List Value → Option (Prop × am_O)) : Option (Prop × am_O) := match st with
  | .long x :: r => f x r
  | _ => none
def am_l2 (st : List Value) (f : Int64 → Int64 → List Value → Option (Prop × am_O)) : Option (Prop × am_O) := match st with
  | .long y :: .long x :: r => f x y r
  | _ => none
def am_li (st : List Value) (f : Int64 → Int32 → List Value → Option (Prop × am_O)) : Option (Prop × am_O) := match st with
  | .int y :: .long x :: r => f x y r
  | _ => none
def am_a1 (st : List Value) (f : Nat → List Value → Option (Prop × am_O)) : Option (Prop × am_O) := match st with
  | .ref a :: r => f a r
  | _ => none
def am_ai (st : List Value) (f : Nat → Int32 → List Value → Option (Prop × am_O)) : Option (Prop × am_O) := match st with
  | .int i :: .ref a :: r => f a i r
  | _ => none
def am_aii (st : List Value) (f : Nat → Int32 → Int32 → List Value → Option (Prop × am_O)) : Option (Prop × am_O) := match st with
  | .int x :: .int i :: .ref a :: r => f a i x r
  | _ => none
def am_ail (st : List Value) (f : Nat → Int32 → Int64 → List Value → Option (Prop × am_O)) : Option (Prop × am_O) := match st with
  | .long x :: .int i :: .ref a :: r => f a i x r
  | _ => none
def am_av (st : List Value) (f : Nat → Value → List Value → Option (Prop × am_O)) : Option (Prop × am_O) := match st with
  | v :: .ref a :: r => f a v r
  | _ => none
def am_vi (o : Option Value) (f : Int32 → Option (Prop × am_O)) : Option (Prop × am_O) := match o with
  | some (.int x) => f x
  | _ => none
def am_vl (o : Option Value) (f : Int64 → Option (Prop × am_O)) : Option (Prop × am_O) := match o with
  | some (.long x) => f x
  | _ => none
def am_va (o : Option Value) (f : Nat → Option (Prop × am_O)) : Option (Prop × am_O) := match o with
  | some (.ref x) => f x
  | _ => none
def am_N (ls : am_L) (st : List Value) (h : am_H) (u : am_U) : Option (Prop × am_O) := some (True, .inl (ls, st, h, u))
def am_Nc (c : Prop) (ls : am_L) (st : List Value) (h : am_H) (u : am_U) : Option (Prop × am_O) := some (c, .inl (ls, st, h, u))
def am_J (pc : Nat) (ls : am_L) (st : List Value) (h : am_H) (u : am_U) : Option (Prop × am_O) := some (True, .inr (.inl (pc, ls, st, h, u)))
def am_tg (pc : Nat) (off : Int) : Nat := ((pc : Int) + off).toNat
def am_c1 (c : Jvm.ClassFile.Cond) (x : Int32) : Bool := match c with
  | .eq => decide (x = 0)
  | .ne => decide (¬ x = 0)
  | .lt => decide (x < 0)
  | .ge => decide (0 ≤ x)
  | .gt => decide (0 < x)
  | .le => decide (x ≤ 0)
def am_c2 (c : Jvm.ClassFile.Cond) (x y : Int32) : Bool := match c with
  | .eq => decide (x = y)
  | .ne => decide (¬ x = y)
  | .lt => decide (x < y)
  | .ge => decide (y ≤ x)
  | .gt => decide (y < x)
  | .le => decide (x ≤ y)
/-- a call's receiver -/
def am_rc (h : am_H) (k : Nat) (as : List Value) : Prop := match as with
  | .ref a :: _ => am_st k = true ∨ am_ty h a = some (am_ow k + 3)
  | _ => am_st k = true
def am_cal (j k : Nat) (ls : am_L) (st : List Value) (h : am_H) (u : am_U) : Option (Prop × am_O) :=
  some (am_na k ≤ st.length ∧ ((st.drop (am_na k)).map fun v => v.category).sum ≤ 8 ∧ am_rc h k (st.take (am_na k)).reverse ∧ u.1 + am_mc k ≤ am_mc j ∧ u.2 + am_ms k ≤ am_ms j,
    .inr (.inr (.inl (k, (st.take (am_na k)).reverse, ls, st.drop (am_na k), h, u.1 + am_mc k, u.2 + am_ms k))))
/-- the own methods and the library's: 0 static, 6 virtual, 7 a constructor; 1 Object's constructor, 2 to 5 Math -/
def am_ivs (j : Nat) (r : Nat × Nat) (ls : am_L) (st : List Value) (h : am_H) (u : am_U) : Option (Prop × am_O) := match r.1 with
  | 0 => am_cal j r.2 ls st h u
  | 2 => am_o1 st fun x r => am_Nc ((r.map fun v => v.category).sum ≤ 8) ls (.int (if 0 ≤ x then x else 0 - x) :: r) h u
  | 3 => am_l1 st fun x r => am_Nc ((r.map fun v => v.category).sum ≤ 8) ls (.long (if 0 < x then x else -x) :: r) h u
  | 4 => am_l2 st fun x y r => am_Nc ((r.map fun v => v.category).sum ≤ 8) ls (.long (if y < x then x else y) :: r) h u
  | 5 => am_l2 st fun x y r => am_Nc ((r.map fun v => v.category).sum ≤ 8) ls (.long (if y < x then y else x) :: r) h u
  | _ => none
def am_ivv (j : Nat) (r : Nat × Nat) (ls : am_L) (st : List Value) (h : am_H) (u : am_U) : Option (Prop × am_O) := match r.1 with
  | 6 => am_cal j r.2 ls st h u
  | _ => none
def am_ivi (j : Nat) (r : Nat × Nat) (ls : am_L) (st : List Value) (h : am_H) (u : am_U) : Option (Prop × am_O) := match r.1 with
  | 7 => am_cal j r.2 ls st h u
  | 1 => am_a1 st fun _ r => am_Nc ((r.map fun v => v.category).sum ≤ 8) ls r h u
  | _ => none
def am_atc (t : Jvm.ClassFile.ArrayType) : Option Nat := match t with
  | .int => some 0
  | .boolean => some 1
  | .long => some 2
  | _ => none
/-- what an instruction of method j does: what must hold, and what comes then -/
def am_sem (j : Nat) (i : Jvm.ClassFile.Instr) (pc : Nat) (ls : am_L) (st : List Value) (h : am_H) (u : am_U) : Option (Prop × am_O) := match i with
  | .iconst n => am_N ls (.int (Int32.ofInt n) :: st) h u
  | .bipush n => am_N ls (.int (Int8.ofInt n).toInt32 :: st) h u
  | .sipush n => am_N ls (.int (Int16.ofInt n).toInt32 :: st) h u
  | .lconst n => am_N ls (.long (Int64.ofNat (n : Nat)) :: st) h u
  | .ldc2_w x => match am_kL (am_ow j) x with
    | some v => am_N ls (.long v :: st) h u
    | none => none
  | .iload k => am_vi (am_lk ls k) fun x => am_N ls (.int x :: st) h u
  | .iload_n k => am_vi (am_lk ls k) fun x => am_N ls (.int x :: st) h u
  | .lload k => am_vl (am_lk ls k) fun x => am_N ls (.long x :: st) h u
  | .lload_n k => am_vl (am_lk ls k) fun x => am_N ls (.long x :: st) h u
  | .aload k => am_va (am_lk ls k) fun x => am_N ls (.ref x :: st) h u
  | .aload_n k => am_va (am_lk ls k) fun x => am_N ls (.ref x :: st) h u
  | .istore k => am_o1 st fun x r => am_N (am_s1 ls k (.int x)) r h u
  | .istore_n k => am_o1 st fun x r => am_N (am_s1 ls k (.int x)) r h u
  | .lstore k => am_l1 st fun x r => am_N (am_s2 ls k (.long x)) r h u
  | .lstore_n k => am_l1 st fun x r => am_N (am_s2 ls k (.long x)) r h u
  | .astore k => am_a1 st fun x r => am_N (am_s1 ls k (.ref x)) r h u
  | .astore_n k => am_a1 st fun x r => am_N (am_s1 ls k (.ref x)) r h u
  | .iinc k n => am_vi (am_lk ls k) fun x => am_N (am_s1 ls k (.int (x + Int32.ofInt n))) st h u
  | .iadd => am_o2 st fun x y r => am_N ls (.int (x + y) :: r) h u
  | .isub => am_o2 st fun x y r => am_N ls (.int (x - y) :: r) h u
  | .imul => am_o2 st fun x y r => am_N ls (.int (x * y) :: r) h u
  | .iand => am_o2 st fun x y r => am_N ls (.int (x &&& y) :: r) h u
  | .ior => am_o2 st fun x y r => am_N ls (.int (x ||| y) :: r) h u
  | .ishl => am_o2 st fun x y r => am_N ls (.int (x <<< (y &&& 31)) :: r) h u
  | .ishr => am_o2 st fun x y r => am_N ls (.int (x >>> (y &&& 31)) :: r) h u
  | .idiv => am_o2 st fun x y r => am_Nc (¬ y = 0) ls (.int (x / y) :: r) h u
  | .irem => am_o2 st fun x y r => am_Nc (¬ y = 0) ls (.int (x - x / y * y) :: r) h u
  | .ineg => am_o1 st fun x r => am_N ls (.int (-x) :: r) h u
  | .ladd => am_l2 st fun x y r => am_N ls (.long (x + y) :: r) h u
  | .lsub => am_l2 st fun x y r => am_N ls (.long (x - y) :: r) h u
  | .lmul => am_l2 st fun x y r => am_N ls (.long (x * y) :: r) h u
  | .land => am_l2 st fun x y r => am_N ls (.long (x &&& y) :: r) h u
  | .lor => am_l2 st fun x y r => am_N ls (.long (x ||| y) :: r) h u
  | .lxor => am_l2 st fun x y r => am_N ls (.long (x ^^^ y) :: r) h u
  | .ldiv => am_l2 st fun x y r => am_Nc (¬ y = 0) ls (.long (x / y) :: r) h u
  | .lneg => am_l1 st fun x r => am_N ls (.long (-x) :: r) h u
  | .lushr => am_li st fun x y r => am_N ls (.long (x.toUInt64 >>> (y.toInt64.toUInt64 &&& Int64.toUInt64 63)).toInt64 :: r) h u
  | .lshl => am_li st fun x y r => am_N ls (.long (x <<< (y.toInt64 &&& 63)) :: r) h u
  | .i2l => am_o1 st fun x r => am_N ls (.long x.toInt64 :: r) h u
  | .l2i => am_l1 st fun x r => am_N ls (.int x.toInt32 :: r) h u
  | .lcmp => am_l2 st fun x y r => am_N ls (.int (lg_cmp x y) :: r) h u
  | .dup => match st with
    | v :: r => am_Nc (v.category = 1) ls (v :: v :: r) h u
    | _ => none
  | .dup2 => match st with
    | v :: w :: r => am_Nc (v.category = 1 ∧ w.category = 1) ls (v :: w :: v :: w :: r) h u
    | _ => none
  | .ifCond c off => am_o1 st fun x r => am_J (if am_c1 c x = true then am_tg pc off else pc + 3) ls r h u
  | .if_icmp c off => am_o2 st fun x y r => am_J (if am_c2 c x y = true then am_tg pc off else pc + 3) ls r h u
  | .goto off => am_J (am_tg pc off) ls st h u
  | .tableswitch d lo hi offs => am_o1 st fun x r => am_J (if x.toInt < lo ∨ hi < x.toInt then am_tg pc d else am_tg pc (offs.toList.getD (x.toInt - lo).toNat d)) ls r h u
  | .lookupswitch d ps => am_o1 st fun x r => am_J (am_tg pc (Op.lookupswitch.offset ps.toList d x.toInt)) ls r h u
  | .getfield x => match am_rf (am_ow j) x with
    | some (c, k) => am_a1 st fun a r => am_Nc (am_ty h a = some (c + 3)) ls (am_fv h c k a :: r) h u
    | none => none
  | .putfield x => match am_rf (am_ow j) x with
    | some (c, k) => am_av st fun a v r => (match am_fp h c k a v with
      | some (q, h') => am_Nc (am_ty h a = some (c + 3) ∧ (am_ff c k = true → am_ow j = c ∧ am_in j = true) ∧ q) ls r h' u
      | none => none)
    | none => none
  | .iaload => am_ai st fun a i r => am_Nc ((am_ty h a = some 0 ∨ a = 1000 ∧ j = am_law) ∧ vp_in i (am_sz h a)) ls (.int (h.2.2.1 a i.toNatClampNeg) :: r) h u
  | .baload => am_ai st fun a i r => am_Nc (am_ty h a = some 1 ∧ vp_in i (am_sz h a)) ls (.int (h.2.2.1 a i.toNatClampNeg) :: r) h u
  | .laload => am_ai st fun a i r => am_Nc (am_ty h a = some 2 ∧ vp_in i (am_sz h a)) ls (.long (h.2.2.2.1 a i.toNatClampNeg) :: r) h u
  | .iastore => am_aii st fun a i x r => am_Nc (am_ty h a = some 0 ∧ vp_in i (am_sz h a)) ls r (am_pi h a i.toNatClampNeg x) u
  | .bastore => am_aii st fun a i x r => am_Nc (am_ty h a = some 1 ∧ vp_in i (am_sz h a) ∧ (x = 0 ∨ x = 1)) ls r (am_pi h a i.toNatClampNeg x) u
  | .lastore => am_ail st fun a i x r => am_Nc (am_ty h a = some 2 ∧ vp_in i (am_sz h a)) ls r (am_pl h a i.toNatClampNeg x) u
  | .arraylength => am_a1 st fun a r => am_Nc (a = 1000 ∧ j = am_law) ls (.int (Int32.ofNat (am_sz h a)) :: r) h u
  | .new x => match am_rn (am_ow j) x with
    | some c => am_Nc (h.1 < 1000 ∧ u.1 + 1 ≤ am_mc j ∧ u.2 + am_nf c ≤ am_ms j) ls (.ref h.1 :: st) (am_nw h (c + 3) 0) (u.1 + 1, u.2 + am_nf c)
    | none => none
  | .newarray t => match am_atc t with
    | some c => am_o1 st fun x r => am_Nc (¬ x < 0 ∧ x.toNatClampNeg ≤ 60000 ∧ h.1 < 1000 ∧ u.1 + 1 ≤ am_mc j ∧ u.2 + x.toNatClampNeg ≤ am_ms j) ls (.ref h.1 :: r) (am_nw h c x.toNatClampNeg) (u.1 + 1, u.2 + x.toNatClampNeg)
    | none => none
  | .invokespecial x => am_ivi j (am_rm (am_ow j) x) ls st h u
  | .invokevirtual x => am_ivv j (am_rm (am_ow j) x) ls st h u
  | .invokestatic x => am_ivs j (am_rm (am_ow j) x) ls st h u
  | .ireturn => match st with
    | [.int v] => some ((am_rt j = 0 ∨ am_rt j = 1 ∧ (v = 0 ∨ v = 1)), .inr (.inr (.inr (some (.int v), h))))
    | _ => none
  | .lreturn => match st with
    | [.long v] => some (am_rt j = 2, .inr (.inr (.inr (some (.long v), h))))
    | _ => none
  | .return_ => match st with
    | [] => some (am_rt j = 3, .inr (.inr (.inr (none, h))))
    | _ => none
  | _ => none
def am_len (i : Jvm.ClassFile.Instr) : Nat := match i with
  | .bipush _ | .ldc _ | .iload _ | .lload _ | .aload _ | .istore _ | .lstore _ | .astore _ | .newarray _ => 2
  | .sipush _ | .ldc2_w _ | .iinc _ _ | .ifCond _ _ | .if_icmp _ _ | .goto _ | .getfield _ | .putfield _ | .new _ | .invokespecial _ | .invokevirtual _ | .invokestatic _ => 3
  | _ => 1
def am_lp (i : Jvm.ClassFile.Instr) (pc : Nat) : Nat := match i with
  | .tableswitch _ _ _ offs => 1 + (3 - pc % 4) + 12 + 4 * offs.size
  | .lookupswitch _ ps => 1 + (3 - pc % 4) + 8 + 8 * ps.size
  | i => am_len i
/-- numbers, locals, the stack: what a program decides of them -/
def am_okA (j : Nat) (i : Jvm.ClassFile.Instr) : Bool := match i with
  | .istore k | .astore k | .iinc k _ => decide (k < am_mL j)
  | .istore_n k | .astore_n k => decide ((k : Nat) < am_mL j)
  | .lstore k => decide (k + 1 < am_mL j)
  | .lstore_n k => decide ((k : Nat) + 1 < am_mL j)
  | .iconst _ | .bipush _ | .sipush _ | .lconst _ | .iload _ | .iload_n _ | .lload _ | .lload_n _ | .aload _ | .aload_n _ | .iadd | .isub | .imul | .iand | .ior | .ishl | .ishr | .idiv | .irem | .ineg | .ladd | .lsub | .lmul | .land | .lor | .lxor | .ldiv | .lneg | .lushr | .lshl | .i2l | .l2i | .lcmp | .dup | .dup2 => true
  | _ => false
def am_okJ (pc : Nat) (i : Jvm.ClassFile.Instr) : Bool := match i with
  | .goto off | .ifCond _ off | .if_icmp _ off => decide (0 ≤ (pc : Int) + off)
  | .tableswitch dd lo hi offs => decide (0 ≤ (pc : Int) + dd) && offs.toList.all (fun z => decide (0 ≤ (pc : Int) + z)) && decide ((offs.size : Int) = hi - lo + 1)
  | .lookupswitch dd ps => decide (0 ≤ (pc : Int) + dd) && ps.toList.all (fun z => decide (0 ≤ (pc : Int) + z.2)) && (ps.toList.zip (ps.toList.drop 1)).all (fun (a, next) => a.1 < next.1)
  | _ => false
def am_okF (i : Jvm.ClassFile.Instr) : Bool := match i with
  | .getfield _ | .putfield _ | .iaload | .baload | .laload | .iastore | .bastore | .lastore | .arraylength => true
  | _ => false
def am_okN (i : Jvm.ClassFile.Instr) : Bool := match i with
  | .new _ | .newarray _ => true
  | _ => false
def am_okC (i : Jvm.ClassFile.Instr) : Bool := match i with
  | .invokespecial _ | .invokevirtual _ | .invokestatic _ => true
  | _ => false
def am_okR (i : Jvm.ClassFile.Instr) : Bool := match i with
  | .ireturn | .lreturn | .return_ => true
  | _ => false
/-- the rooms of a call -/
def am_okr (j x : Nat) : Bool := match am_rm (am_ow j) x with
  | (0, k) | (6, k) | (7, k) => decide (am_fr k + 1 ≤ am_fr j) && decide (8 + (am_mL k + 11) + am_lr k ≤ am_lr j)
  | (9, _) => true
  | _ => decide (1 ≤ am_fr j) && decide (23 ≤ am_lr j)
def am_okM (j : Nat) (i : Jvm.ClassFile.Instr) : Bool := match i with
  | .invokespecial x | .invokevirtual x | .invokestatic x => am_okr j x
  | .ldc2_w _ | .ldc _ | .athrow => true
  | _ => false
def am_chkI (j pc : Nat) (i : Jvm.ClassFile.Instr) : Bool := am_okA j i || am_okJ pc i || am_okF i || am_okN i || am_okR i || am_okM j i
def am_chkB (j : Nat) : Nat → List Jvm.ClassFile.Instr → Bool
  | _, [] => true
  | pc, i :: r => decide (decode (am_by j) pc = .ok (i, am_lp i pc)) && am_chkI j pc i && am_chkB j (pc + am_len i) r
def am_chk (j : Nat) : Bool := (am_kd j).all fun q => am_chkB j q.1 q.2
/-- an instruction, with what comes behind it (K), where it jumps (X), what is called (C), what returns (Q) -/
def am_ev (j : Nat) (C : am_C) (Q : Option Value → am_H → Prop) (X : am_X) (K : am_S → Prop) (o : Option (Prop × am_O)) : Prop := match o with
  | some (c, .inl s) => c ∧ K s
  | some (c, .inr (.inl (pc, s))) => c ∧ X pc s.1 s.2.1 s.2.2.1 s.2.2.2
  | some (c, .inr (.inr (.inl (k, as, s)))) => c ∧ C k as s.2.2.1 (fun v h => K (s.1, v.toList ++ s.2.1, h, s.2.2.2))
  | some (c, .inr (.inr (.inr (v, h)))) => c ∧ Q v h
  | none => False
def am_run (j : Nat) (C : am_C) (Q : Option Value → am_H → Prop) (X : am_X) : List Jvm.ClassFile.Instr → Nat → am_S → Prop
  | [], pc, s => X pc s.1 s.2.1 s.2.2.1 s.2.2.2
  | i :: r, pc, s => am_ev j C Q X (am_run j C Q X r (pc + am_len i)) (am_sem j i pc s.1 s.2.1 s.2.2.1 s.2.2.2)
def am_code (j pc : Nat) : List Jvm.ClassFile.Instr := ((am_kd j).lookup pc).getD []
def am_Wp (C : am_C) (j : Nat) (Q : Option Value → am_H → Prop) (pc : Nat) (ls : am_L) (st : List Value) (h : am_H) (u : am_U) : Prop :=
  ∀ X : am_X, (∀ pc ls st h u, am_run j C Q X (am_code j pc) pc (ls, st, h, u) → X pc ls st h u) → (∀ pc ls ls' st h u, am_le ls ls' → X pc ls st h u → X pc ls' st h u) → X pc ls st h u
def am_call : Nat → am_C
  | 0 => fun _ _ _ _ => False
  | d + 1 => fun j as h Q => (j < am_lst ∧ (am_sp as).length ≤ am_mL j) ∧ am_Wp (am_call d) j Q 0 (am_en j as) [] h (0, 0)
-- it is monotone
theorem am_ev_mono {j : Nat} {C : am_C} {Q Q' : Option Value → am_H → Prop} {X X' : am_X} {K K' : am_S → Prop} (hC : ∀ k as h (Z Z' : Option Value → am_H → Prop), (∀ v h, Z v h → Z' v h) → C k as h Z → C k as h Z') (hQ : ∀ v h, Q v h → Q' v h) (hX : ∀ pc ls st h u, X pc ls st h u → X' pc ls st h u) (hK : ∀ s, K s → K' s) :
    ∀ {o : Option (Prop × am_O)}, am_ev j C Q X K o → am_ev j C Q' X' K' o
  | some (_, .inl _), e => ⟨e.1, hK _ e.2⟩
  | some (_, .inr (.inl _)), e => ⟨e.1, hX _ _ _ _ _ e.2⟩
  | some (_, .inr (.inr (.inl _))), e => ⟨e.1, hC _ _ _ _ _ (fun _ _ z => hK _ z) e.2⟩
  | some (_, .inr (.inr (.inr _))), e => ⟨e.1, hQ _ _ e.2⟩
  | none, e => e
theorem am_run_mono {j : Nat} {C : am_C} {Q Q' : Option Value → am_H → Prop} {X X' : am_X} (hC : ∀ k as h (Z Z' : Option Value → am_H → Prop), (∀ v h, Z v h → Z' v h) → C k as h Z → C k as h Z') (hQ : ∀ v h, Q v h → Q' v h) (hX : ∀ pc ls st h u, X pc ls st h u → X' pc ls st h u) :
    ∀ (r : List Jvm.ClassFile.Instr) (pc : Nat) (s : am_S), am_run j C Q X r pc s → am_run j C Q' X' r pc s
  | [], _, _, e => hX _ _ _ _ _ e
  | _ :: r, pc, _, e => am_ev_mono hC hQ hX (fun s z => am_run_mono hC hQ hX r _ s z) e
theorem am_Wp_mono {C : am_C} {j : Nat} {Q Q' : Option Value → am_H → Prop} (hC : ∀ k as h (Z Z' : Option Value → am_H → Prop), (∀ v h, Z v h → Z' v h) → C k as h Z → C k as h Z') (hQ : ∀ v h, Q v h → Q' v h) {pc : Nat} {ls : am_L} {st : List Value} {h : am_H} {u : am_U} (e : am_Wp C j Q pc ls st h u) : am_Wp C j Q' pc ls st h u :=
  fun X h1 h2 => e X (fun pc ls st h u z => h1 pc ls st h u (am_run_mono hC hQ (fun _ _ _ _ _ z => z) _ _ _ z)) h2
theorem am_call_mono : ∀ (d k : Nat) (as : List Value) (h : am_H) (Z Z' : Option Value → am_H → Prop), (∀ v h, Z v h → Z' v h) → am_call d k as h Z → am_call d k as h Z'
  | 0, _, _, _, _, _, _, e => e
  | d + 1, _, _, _, _, _, hZ, e => ⟨e.1, am_Wp_mono (am_call_mono d) hZ e.2⟩
/-- a step: a block -/
theorem am_go {d j : Nat} {Q : Option Value → am_H → Prop} {pc : Nat} {ls : am_L} {st : List Value} {h : am_H} {u : am_U} (e : am_run j (am_call d) Q (am_Wp (am_call d) j Q) (am_code j pc) pc (ls, st, h, u)) : am_Wp (am_call d) j Q pc ls st h u :=
  fun X h1 h2 => h1 pc ls st h u (am_run_mono (am_call_mono d) (fun _ _ z => z) (fun _ _ _ _ _ z => z X h1 h2) _ _ _ e)
/-- fewer locals -/
theorem am_weak {d j : Nat} {Q : Option Value → am_H → Prop} {pc : Nat} {ls ls' : am_L} {st : List Value} {h : am_H} {u : am_U} (hl : am_le ls ls') (e : am_Wp (am_call d) j Q pc ls st h u) : am_Wp (am_call d) j Q pc ls' st h u :=
  fun X h1 h2 => h2 pc ls ls' st h u hl (e X h1 h2)
theorem am_up1 : ∀ (d k : Nat) (as : List Value) (h : am_H) (Z : Option Value → am_H → Prop), am_call d k as h Z → am_call (d + 1) k as h Z
  | 0, _, _, _, _, e => e.elim
  | d + 1, k, as, h, Z, e => ⟨e.1, fun X h1 h2 => by
    refine e.2 X (fun pc ls st h u z => h1 pc ls st h u ?_) h2
    have key : ∀ (r : List Jvm.ClassFile.Instr) (pc : Nat) (s : am_S), am_run k (am_call d) Z X r pc s → am_run k (am_call (d + 1)) Z X r pc s := by
      intro r
      induction r with
      | nil => exact fun _ _ z => z
      | cons i r ih =>
        intro pc s z
        show am_ev _ _ _ _ _ _
        have z : am_ev _ _ _ _ _ _ := z
        match hs : am_sem k i pc s.1 s.2.1 s.2.2.1 s.2.2.2 with
        | some (_, .inl _) => rw [hs] at z; exact ⟨z.1, ih _ _ z.2⟩
        | some (_, .inr (.inl _)) => rw [hs] at z; exact ⟨z.1, z.2⟩
        | some (_, .inr (.inr (.inl _))) => rw [hs] at z; exact ⟨z.1, am_up1 d _ _ _ _ (am_call_mono d _ _ _ _ _ (fun _ _ y => ih _ _ y) z.2)⟩
        | some (_, .inr (.inr (.inr _))) => rw [hs] at z; exact ⟨z.1, z.2⟩
        | none => rw [hs] at z; exact z.elim
    exact key _ _ _ z⟩
end
section
/-! THE CODE IS WHAT THE TABLES HOLD: printed by wip/gen/facts.py -/
theorem ck_0 : am_chk 0 = true := by decide +kernel
theorem ck_1 : am_chk 1 = true := by decide +kernel
theorem ck_2 : am_chk 2 = true := by decide +kernel
theorem ck_3 : am_chk 3 = true := by decide +kernel
theorem ck_4 : am_chk 4 = true := by decide +kernel
theorem ck_5 : am_chk 5 = true := by decide +kernel
theorem ck_6 : am_chk 6 = true := by decide +kernel
theorem ck_7 : am_chk 7 = true := by decide +kernel
theorem ck_8 : am_chk 8 = true := by decide +kernel
theorem ck_9 : am_chk 9 = true := by decide +kernel
theorem ck_10 : am_chk 10 = true := by decide +kernel
theorem ck_11 : am_chk 11 = true := by decide +kernel
theorem ck_12 : am_chk 12 = true := by decide +kernel
theorem ck_13 : am_chk 13 = true := by decide +kernel
theorem ck_14 : am_chk 14 = true := by decide +kernel
theorem ck_15 : am_chk 15 = true := by decide +kernel
theorem ck_16 : am_chk 16 = true := by decide +kernel
theorem ck_17 : am_chk 17 = true := by decide +kernel
theorem ck_18 : am_chk 18 = true := by decide +kernel
theorem ck_19 : am_chk 19 = true := by decide +kernel
theorem ck_20 : am_chk 20 = true := by decide +kernel
theorem ck_21 : am_chk 21 = true := by decide +kernel
theorem ck_22 : am_chk 22 = true := by decide +kernel
theorem ck_23 : am_chk 23 = true := by decide +kernel
theorem ck_24 : am_chk 24 = true := by decide +kernel
theorem ck_25 : am_chk 25 = true := by decide +kernel
theorem ck_26 : am_chk 26 = true := by decide +kernel
theorem ck_27 : am_chk 27 = true := by decide +kernel
theorem ck_28 : am_chk 28 = true := by decide +kernel
theorem ck_29 : am_chk 29 = true := by decide +kernel
theorem ck_30 : am_chk 30 = true := by decide +kernel
theorem ck_31 : am_chk 31 = true := by decide +kernel
theorem ck_32 : am_chk 32 = true := by decide +kernel
theorem ck_33 : am_chk 33 = true := by decide +kernel
theorem ck_34 : am_chk 34 = true := by decide +kernel
theorem ck_35 : am_chk 35 = true := by decide +kernel
theorem ck_36 : am_chk 36 = true := by decide +kernel
theorem ck_37 : am_chk 37 = true := by decide +kernel
theorem ck_38 : am_chk 38 = true := by decide +kernel
theorem ck_39 : am_chk 39 = true := by decide +kernel
theorem ck_40 : am_chk 40 = true := by decide +kernel
theorem ck_41 : am_chk 41 = true := by decide +kernel
theorem ck_42 : am_chk 42 = true := by decide +kernel
theorem ck_43 : am_chk 43 = true := by decide +kernel
theorem ck_44 : am_chk 44 = true := by decide +kernel
theorem ck_45 : am_chk 45 = true := by decide +kernel
theorem ck_46 : am_chk 46 = true := by decide +kernel
theorem ck_47 : am_chk 47 = true := by decide +kernel
theorem ck_48 : am_chk 48 = true := by decide +kernel
theorem ck_49 : am_chk 49 = true := by decide +kernel
theorem ck_50 : am_chk 50 = true := by decide +kernel
theorem ck_51 : am_chk 51 = true := by decide +kernel
theorem ck_52 : am_chk 52 = true := by decide +kernel
theorem ck_53 : am_chk 53 = true := by decide +kernel
theorem ck_54 : am_chk 54 = true := by decide +kernel
theorem ck_55 : am_chk 55 = true := by decide +kernel
theorem ck_56 : am_chk 56 = true := by decide +kernel
theorem ck_57 : am_chk 57 = true := by decide +kernel
theorem ck_58 : am_chk 58 = true := by decide +kernel
theorem ck_59 : am_chk 59 = true := by decide +kernel
theorem ck_60 : am_chk 60 = true := by decide +kernel
theorem ck_61 : am_chk 61 = true := by decide +kernel
theorem ck_62 : am_chk 62 = true := by decide +kernel
theorem ck_63 : am_chk 63 = true := by decide +kernel
theorem ck_64 : am_chk 64 = true := by decide +kernel
theorem ck_65 : am_chk 65 = true := by decide +kernel
theorem ck_66 : am_chk 66 = true := by decide +kernel
theorem ck_67 : am_chk 67 = true := by decide +kernel
theorem ck_68 : am_chk 68 = true := by decide +kernel
theorem ck_69 : am_chk 69 = true := by decide +kernel
theorem ck_70 : am_chk 70 = true := by decide +kernel
theorem ck_71 : am_chk 71 = true := by decide +kernel
theorem ck_72 : am_chk 72 = true := by decide +kernel
theorem ck_73 : am_chk 73 = true := by decide +kernel
theorem ck_74 : am_chk 74 = true := by decide +kernel
theorem ck_75 : am_chk 75 = true := by decide +kernel
theorem ck_76 : am_chk 76 = true := by decide +kernel
theorem ck_77 : am_chk 77 = true := by decide +kernel
theorem ck_78 : am_chk 78 = true := by decide +kernel
theorem ck_79 : am_chk 79 = true := by decide +kernel
theorem ck_80 : am_chk 80 = true := by decide +kernel
theorem ck_81 : am_chk 81 = true := by decide +kernel
theorem ck_82 : am_chk 82 = true := by decide +kernel
theorem ck_83 : am_chk 83 = true := by decide +kernel
theorem ck_84 : am_chk 84 = true := by decide +kernel
theorem ck_85 : am_chk 85 = true := by decide +kernel
theorem ck_86 : am_chk 86 = true := by decide +kernel
theorem ck_87 : am_chk 87 = true := by decide +kernel
theorem ck_88 : am_chk 88 = true := by decide +kernel
theorem ck_89 : am_chk 89 = true := by decide +kernel
theorem ck_90 : am_chk 90 = true := by decide +kernel
theorem ck_91 : am_chk 91 = true := by decide +kernel
theorem ck_92 : am_chk 92 = true := by decide +kernel
theorem ck_93 : am_chk 93 = true := by decide +kernel
theorem ck_94 : am_chk 94 = true := by decide +kernel
theorem ck_95 : am_chk 95 = true := by decide +kernel
theorem ck_96 : am_chk 96 = true := by decide +kernel
theorem ck_97 : am_chk 97 = true := by decide +kernel
theorem ck_98 : am_chk 98 = true := by decide +kernel
theorem ck_99 : am_chk 99 = true := by decide +kernel
theorem ck_100 : am_chk 100 = true := by decide +kernel
theorem ck_101 : am_chk 101 = true := by decide +kernel
theorem ck_102 : am_chk 102 = true := by decide +kernel
theorem ck_103 : am_chk 103 = true := by decide +kernel
theorem ck_104 : am_chk 104 = true := by decide +kernel
theorem ck_105 : am_chk 105 = true := by decide +kernel
theorem ck_106 : am_chk 106 = true := by decide +kernel
theorem ck_107 : am_chk 107 = true := by decide +kernel
theorem ck_108 : am_chk 108 = true := by decide +kernel
theorem ck_109 : am_chk 109 = true := by decide +kernel
theorem ck_110 : am_chk 110 = true := by decide +kernel
theorem ck_111 : am_chk 111 = true := by decide +kernel
theorem ck_112 : am_chk 112 = true := by decide +kernel
theorem ck_113 : am_chk 113 = true := by decide +kernel
theorem ck_114 : am_chk 114 = true := by decide +kernel
theorem ck_115 : am_chk 115 = true := by decide +kernel
theorem ck_116 : am_chk 116 = true := by decide +kernel
theorem ck_117 : am_chk 117 = true := by decide +kernel
theorem ck_118 : am_chk 118 = true := by decide +kernel
theorem ck_119 : am_chk 119 = true := by decide +kernel
theorem ck_120 : am_chk 120 = true := by decide +kernel
theorem ck_121 : am_chk 121 = true := by decide +kernel
theorem ck_122 : am_chk 122 = true := by decide +kernel
theorem ck_123 : am_chk 123 = true := by decide +kernel
theorem ck_124 : am_chk 124 = true := by decide +kernel
theorem ck_125 : am_chk 125 = true := by decide +kernel
theorem ck_126 : am_chk 126 = true := by decide +kernel
theorem ck_127 : am_chk 127 = true := by decide +kernel
theorem ck_128 : am_chk 128 = true := by decide +kernel
theorem ck_129 : am_chk 129 = true := by decide +kernel
theorem ck_130 : am_chk 130 = true := by decide +kernel
theorem ck_131 : am_chk 131 = true := by decide +kernel
theorem ck_132 : am_chk 132 = true := by decide +kernel
theorem ck_133 : am_chk 133 = true := by decide +kernel
theorem ck_134 : am_chk 134 = true := by decide +kernel
theorem ck_135 : am_chk 135 = true := by decide +kernel
theorem ck_136 : am_chk 136 = true := by decide +kernel
theorem ck_137 : am_chk 137 = true := by decide +kernel
theorem ck_138 : am_chk 138 = true := by decide +kernel
theorem ck_139 : am_chk 139 = true := by decide +kernel
theorem ck_all : ∀ k, k < am_lst → am_chk k = true := by
  intro k hk
  match k, hk with
  | 0, _ => exact ck_0
  | 1, _ => exact ck_1
  | 2, _ => exact ck_2
  | 3, _ => exact ck_3
  | 4, _ => exact ck_4
  | 5, _ => exact ck_5
  | 6, _ => exact ck_6
  | 7, _ => exact ck_7
  | 8, _ => exact ck_8
  | 9, _ => exact ck_9
  | 10, _ => exact ck_10
  | 11, _ => exact ck_11
  | 12, _ => exact ck_12
  | 13, _ => exact ck_13
  | 14, _ => exact ck_14
  | 15, _ => exact ck_15
  | 16, _ => exact ck_16
  | 17, _ => exact ck_17
  | 18, _ => exact ck_18
  | 19, _ => exact ck_19
  | 20, _ => exact ck_20
  | 21, _ => exact ck_21
  | 22, _ => exact ck_22
  | 23, _ => exact ck_23
  | 24, _ => exact ck_24
  | 25, _ => exact ck_25
  | 26, _ => exact ck_26
  | 27, _ => exact ck_27
  | 28, _ => exact ck_28
  | 29, _ => exact ck_29
  | 30, _ => exact ck_30
  | 31, _ => exact ck_31
  | 32, _ => exact ck_32
  | 33, _ => exact ck_33
  | 34, _ => exact ck_34
  | 35, _ => exact ck_35
  | 36, _ => exact ck_36
  | 37, _ => exact ck_37
  | 38, _ => exact ck_38
  | 39, _ => exact ck_39
  | 40, _ => exact ck_40
  | 41, _ => exact ck_41
  | 42, _ => exact ck_42
  | 43, _ => exact ck_43
  | 44, _ => exact ck_44
  | 45, _ => exact ck_45
  | 46, _ => exact ck_46
  | 47, _ => exact ck_47
  | 48, _ => exact ck_48
  | 49, _ => exact ck_49
  | 50, _ => exact ck_50
  | 51, _ => exact ck_51
  | 52, _ => exact ck_52
  | 53, _ => exact ck_53
  | 54, _ => exact ck_54
  | 55, _ => exact ck_55
  | 56, _ => exact ck_56
  | 57, _ => exact ck_57
  | 58, _ => exact ck_58
  | 59, _ => exact ck_59
  | 60, _ => exact ck_60
  | 61, _ => exact ck_61
  | 62, _ => exact ck_62
  | 63, _ => exact ck_63
  | 64, _ => exact ck_64
  | 65, _ => exact ck_65
  | 66, _ => exact ck_66
  | 67, _ => exact ck_67
  | 68, _ => exact ck_68
  | 69, _ => exact ck_69
  | 70, _ => exact ck_70
  | 71, _ => exact ck_71
  | 72, _ => exact ck_72
  | 73, _ => exact ck_73
  | 74, _ => exact ck_74
  | 75, _ => exact ck_75
  | 76, _ => exact ck_76
  | 77, _ => exact ck_77
  | 78, _ => exact ck_78
  | 79, _ => exact ck_79
  | 80, _ => exact ck_80
  | 81, _ => exact ck_81
  | 82, _ => exact ck_82
  | 83, _ => exact ck_83
  | 84, _ => exact ck_84
  | 85, _ => exact ck_85
  | 86, _ => exact ck_86
  | 87, _ => exact ck_87
  | 88, _ => exact ck_88
  | 89, _ => exact ck_89
  | 90, _ => exact ck_90
  | 91, _ => exact ck_91
  | 92, _ => exact ck_92
  | 93, _ => exact ck_93
  | 94, _ => exact ck_94
  | 95, _ => exact ck_95
  | 96, _ => exact ck_96
  | 97, _ => exact ck_97
  | 98, _ => exact ck_98
  | 99, _ => exact ck_99
  | 100, _ => exact ck_100
  | 101, _ => exact ck_101
  | 102, _ => exact ck_102
  | 103, _ => exact ck_103
  | 104, _ => exact ck_104
  | 105, _ => exact ck_105
  | 106, _ => exact ck_106
  | 107, _ => exact ck_107
  | 108, _ => exact ck_108
  | 109, _ => exact ck_109
  | 110, _ => exact ck_110
  | 111, _ => exact ck_111
  | 112, _ => exact ck_112
  | 113, _ => exact ck_113
  | 114, _ => exact ck_114
  | 115, _ => exact ck_115
  | 116, _ => exact ck_116
  | 117, _ => exact ck_117
  | 118, _ => exact ck_118
  | 119, _ => exact ck_119
  | 120, _ => exact ck_120
  | 121, _ => exact ck_121
  | 122, _ => exact ck_122
  | 123, _ => exact ck_123
  | 124, _ => exact ck_124
  | 125, _ => exact ck_125
  | 126, _ => exact ck_126
  | 127, _ => exact ck_127
  | 128, _ => exact ck_128
  | 129, _ => exact ck_129
  | 130, _ => exact ck_130
  | 131, _ => exact ck_131
  | 132, _ => exact ck_132
  | 133, _ => exact ck_133
  | 134, _ => exact ck_134
  | 135, _ => exact ck_135
  | 136, _ => exact ck_136
  | 137, _ => exact ck_137
  | 138, _ => exact ck_138
  | k + 139, h => exact absurd h (by have : am_lst = 139 := rfl; omega)
end
section
/-! THE LAW'S CODE, block by block: printed by wip/gen/facts.py -/
theorem ckb_0 : am_chkB 140 0 [.new 8, .dup, .invokespecial 15, .astore_n 1, .new 16, .dup, .invokespecial 18, .astore_n 2, .iconst (1), .newarray .long, .astore_n 3, .iconst (0), .istore 4] = true := by decide +kernel
theorem ckb_23 : am_chkB 140 23 [.iload 4, .aload_n 0, .arraylength, .bipush (8), .isub, .if_icmp .gt (1022)] = true := by decide +kernel
theorem ckb_33 : am_chkB 140 33 [.aload_n 0, .iload 4, .iaload, .bipush (15), .iand, .tableswitch (1006) (0) (13) #[(72), (173), (345), (410), (479), (572), (597), (611), (724), (837), (894), (931), (956), (969)]] = true := by decide +kernel
theorem ckb_112 : am_chkB 140 112 [.aload_n 1, .aload_n 0, .iload 4, .iconst (1), .iadd, .iaload, .i2l, .bipush (32), .lshl, .aload_n 0, .iload 4, .iconst (2), .iadd, .iaload, .i2l, .ldc2_w 19, .land, .lor, .aload_n 0, .iload 4, .iconst (3), .iadd, .iaload, .i2l, .bipush (32), .lshl, .aload_n 0, .iload 4, .iconst (4), .iadd, .iaload, .i2l, .ldc2_w 19, .land, .lor, .invokevirtual 21, .aload_n 2, .aload_n 0, .iload 4, .iconst (1), .iadd, .iaload, .i2l, .bipush (32), .lshl, .aload_n 0, .iload 4, .iconst (2), .iadd, .iaload, .i2l, .ldc2_w 19, .land, .lor, .aload_n 0, .iload 4, .iconst (3), .iadd, .iaload, .i2l, .bipush (32), .lshl, .aload_n 0, .iload 4, .iconst (4), .iadd, .iaload, .i2l, .ldc2_w 19, .land, .lor, .invokevirtual 25, .if_icmp .eq (838)] = true := by decide +kernel
theorem ckb_211 : am_chkB 140 211 [.iconst (0), .ireturn] = true := by decide +kernel
theorem ckb_213 : am_chkB 140 213 [.aload_n 1, .aload_n 0, .iload 4, .iconst (1), .iadd, .iaload, .aload_n 0, .iload 4, .iconst (2), .iadd, .iaload, .aload_n 0, .iload 4, .iconst (3), .iadd, .iaload, .i2l, .bipush (32), .lshl, .aload_n 0, .iload 4, .iconst (4), .iadd, .iaload, .i2l, .ldc2_w 19, .land, .lor, .aload_n 0, .iload 4, .iconst (5), .iadd, .iaload, .i2l, .bipush (32), .lshl, .aload_n 0, .iload 4, .bipush (6), .iadd, .iaload, .i2l, .ldc2_w 19, .land, .lor, .aload_n 0, .iload 4, .bipush (7), .iadd, .iaload, .aload_n 3, .invokestatic 26, .istore 5, .aload_n 2, .aload_n 0, .iload 4, .iconst (1), .iadd, .iaload, .aload_n 0, .iload 4, .iconst (2), .iadd, .iaload, .aload_n 0, .iload 4, .iconst (3), .iadd, .iaload, .i2l, .bipush (32), .lshl, .aload_n 0, .iload 4, .iconst (4), .iadd, .iaload, .i2l, .ldc2_w 19, .land, .lor, .aload_n 0, .iload 4, .iconst (5), .iadd, .iaload, .i2l, .bipush (32), .lshl, .aload_n 0, .iload 4, .bipush (6), .iadd, .iaload, .i2l, .ldc2_w 19, .land, .lor, .aload_n 0, .iload 4, .bipush (7), .iadd, .iaload, .invokevirtual 31, .istore 6, .aload_n 2, .invokevirtual 32, .iload 5, .if_icmp .eq (5)] = true := by decide +kernel
theorem ckb_363 : am_chkB 140 363 [.iconst (0), .ireturn] = true := by decide +kernel
theorem ckb_365 : am_chkB 140 365 [.iload 5, .ifCond .ne (15)] = true := by decide +kernel
theorem ckb_370 : am_chkB 140 370 [.aload_n 3, .iconst (0), .laload, .iload 6, .i2l, .lcmp, .ifCond .eq (5)] = true := by decide +kernel
theorem ckb_380 : am_chkB 140 380 [.iconst (0), .ireturn] = true := by decide +kernel
theorem ckb_382 : am_chkB 140 382 [.goto (664)] = true := by decide +kernel
theorem ckb_385 : am_chkB 140 385 [.aload_n 1, .aload_n 0, .iload 4, .iconst (1), .iadd, .iaload, .aload_n 0, .iload 4, .iconst (2), .iadd, .iaload, .aload_n 0, .iload 4, .iconst (3), .iadd, .iaload, .ifCond .eq (7)] = true := by decide +kernel
theorem ckb_407 : am_chkB 140 407 [.iconst (1), .goto (4)] = true := by decide +kernel
theorem ckb_411 : am_chkB 140 411 [.iconst (0)] = true := by decide +kernel
theorem ckb_412 : am_chkB 140 412 [.invokevirtual 36, .aload_n 2, .aload_n 0, .iload 4, .iconst (1), .iadd, .iaload, .aload_n 0, .iload 4, .iconst (2), .iadd, .iaload, .aload_n 0, .iload 4, .iconst (3), .iadd, .iaload, .ifCond .eq (7)] = true := by decide +kernel
theorem ckb_437 : am_chkB 140 437 [.iconst (1), .goto (4)] = true := by decide +kernel
theorem ckb_441 : am_chkB 140 441 [.iconst (0)] = true := by decide +kernel
theorem ckb_442 : am_chkB 140 442 [.invokevirtual 40, .if_icmp .eq (601)] = true := by decide +kernel
theorem ckb_448 : am_chkB 140 448 [.iconst (0), .ireturn] = true := by decide +kernel
theorem ckb_450 : am_chkB 140 450 [.aload_n 1, .aload_n 0, .iload 4, .iconst (1), .iadd, .iaload, .aload_n 0, .iload 4, .iconst (2), .iadd, .iaload, .i2l, .bipush (32), .lshl, .aload_n 0, .iload 4, .iconst (3), .iadd, .iaload, .i2l, .ldc2_w 19, .land, .lor, .invokevirtual 41, .aload_n 2, .aload_n 0, .iload 4, .iconst (1), .iadd, .iaload, .aload_n 0, .iload 4, .iconst (2), .iadd, .iaload, .i2l, .bipush (32), .lshl, .aload_n 0, .iload 4, .iconst (3), .iadd, .iaload, .i2l, .ldc2_w 19, .land, .lor, .invokevirtual 45, .if_icmp .eq (532)] = true := by decide +kernel
theorem ckb_517 : am_chkB 140 517 [.iconst (0), .ireturn] = true := by decide +kernel
theorem ckb_519 : am_chkB 140 519 [.aload_n 1, .aload_n 0, .iload 4, .iconst (1), .iadd, .iaload, .aload_n 0, .iload 4, .iconst (2), .iadd, .iaload, .aload_n 0, .iload 4, .iconst (3), .iadd, .iaload, .aload_n 0, .iload 4, .iconst (4), .iadd, .iaload, .i2l, .bipush (32), .lshl, .aload_n 0, .iload 4, .iconst (5), .iadd, .iaload, .i2l, .ldc2_w 19, .land, .lor, .invokevirtual 46, .aload_n 2, .aload_n 0, .iload 4, .iconst (1), .iadd, .iaload, .aload_n 0, .iload 4, .iconst (2), .iadd, .iaload, .aload_n 0, .iload 4, .iconst (3), .iadd, .iaload, .aload_n 0, .iload 4, .iconst (4), .iadd, .iaload, .i2l, .bipush (32), .lshl, .aload_n 0, .iload 4, .iconst (5), .iadd, .iaload, .i2l, .ldc2_w 19, .land, .lor, .invokevirtual 50, .if_icmp .eq (439)] = true := by decide +kernel
theorem ckb_610 : am_chkB 140 610 [.iconst (0), .ireturn] = true := by decide +kernel
theorem ckb_612 : am_chkB 140 612 [.aload_n 1, .aload_n 0, .iload 4, .iconst (1), .iadd, .iaload, .invokevirtual 51, .aload_n 2, .aload_n 0, .iload 4, .iconst (1), .iadd, .iaload, .invokevirtual 55, .if_icmp .eq (414)] = true := by decide +kernel
theorem ckb_635 : am_chkB 140 635 [.iconst (0), .ireturn] = true := by decide +kernel
theorem ckb_637 : am_chkB 140 637 [.aload_n 1, .invokevirtual 56, .aload_n 2, .invokevirtual 60, .lcmp, .ifCond .eq (400)] = true := by decide +kernel
theorem ckb_649 : am_chkB 140 649 [.iconst (0), .ireturn] = true := by decide +kernel
theorem ckb_651 : am_chkB 140 651 [.aload_n 1, .aload_n 0, .iload 4, .iconst (1), .iadd, .iaload, .i2l, .bipush (32), .lshl, .aload_n 0, .iload 4, .iconst (2), .iadd, .iaload, .i2l, .ldc2_w 19, .land, .lor, .aload_n 0, .iload 4, .iconst (3), .iadd, .iaload, .i2l, .bipush (32), .lshl, .aload_n 0, .iload 4, .iconst (4), .iadd, .iaload, .i2l, .ldc2_w 19, .land, .lor, .aload_n 0, .iload 4, .iconst (5), .iadd, .iaload, .invokevirtual 61, .aload_n 2, .aload_n 0, .iload 4, .iconst (1), .iadd, .iaload, .i2l, .bipush (32), .lshl, .aload_n 0, .iload 4, .iconst (2), .iadd, .iaload, .i2l, .ldc2_w 19, .land, .lor, .aload_n 0, .iload 4, .iconst (3), .iadd, .iaload, .i2l, .bipush (32), .lshl, .aload_n 0, .iload 4, .iconst (4), .iadd, .iaload, .i2l, .ldc2_w 19, .land, .lor, .aload_n 0, .iload 4, .iconst (5), .iadd, .iaload, .invokevirtual 65, .if_icmp .eq (287)] = true := by decide +kernel
theorem ckb_762 : am_chkB 140 762 [.iconst (0), .ireturn] = true := by decide +kernel
theorem ckb_764 : am_chkB 140 764 [.aload_n 1, .aload_n 0, .iload 4, .iconst (1), .iadd, .iaload, .aload_n 0, .iload 4, .iconst (2), .iadd, .iaload, .i2l, .bipush (32), .lshl, .aload_n 0, .iload 4, .iconst (3), .iadd, .iaload, .i2l, .ldc2_w 19, .land, .lor, .aload_n 0, .iload 4, .iconst (4), .iadd, .iaload, .i2l, .bipush (32), .lshl, .aload_n 0, .iload 4, .iconst (5), .iadd, .iaload, .i2l, .ldc2_w 19, .land, .lor, .invokevirtual 66, .aload_n 2, .aload_n 0, .iload 4, .iconst (1), .iadd, .iaload, .aload_n 0, .iload 4, .iconst (2), .iadd, .iaload, .i2l, .bipush (32), .lshl, .aload_n 0, .iload 4, .iconst (3), .iadd, .iaload, .i2l, .ldc2_w 19, .land, .lor, .aload_n 0, .iload 4, .iconst (4), .iadd, .iaload, .i2l, .bipush (32), .lshl, .aload_n 0, .iload 4, .iconst (5), .iadd, .iaload, .i2l, .ldc2_w 19, .land, .lor, .invokevirtual 70, .if_icmp .eq (174)] = true := by decide +kernel
theorem ckb_875 : am_chkB 140 875 [.iconst (0), .ireturn] = true := by decide +kernel
theorem ckb_877 : am_chkB 140 877 [.aload_n 1, .aload_n 0, .iload 4, .iconst (1), .iadd, .iaload, .i2l, .bipush (32), .lshl, .aload_n 0, .iload 4, .iconst (2), .iadd, .iaload, .i2l, .ldc2_w 19, .land, .lor, .invokevirtual 71, .aload_n 2, .aload_n 0, .iload 4, .iconst (1), .iadd, .iaload, .i2l, .bipush (32), .lshl, .aload_n 0, .iload 4, .iconst (2), .iadd, .iaload, .i2l, .ldc2_w 19, .land, .lor, .invokevirtual 75, .if_icmp .eq (117)] = true := by decide +kernel
theorem ckb_932 : am_chkB 140 932 [.iconst (0), .ireturn] = true := by decide +kernel
theorem ckb_934 : am_chkB 140 934 [.aload_n 1, .aload_n 0, .iload 4, .iconst (1), .iadd, .iaload, .aload_n 0, .iload 4, .iconst (2), .iadd, .iaload, .invokevirtual 76, .aload_n 2, .aload_n 0, .iload 4, .iconst (1), .iadd, .iaload, .aload_n 0, .iload 4, .iconst (2), .iadd, .iaload, .invokevirtual 80, .if_icmp .eq (80)] = true := by decide +kernel
theorem ckb_969 : am_chkB 140 969 [.iconst (0), .ireturn] = true := by decide +kernel
theorem ckb_971 : am_chkB 140 971 [.aload_n 1, .aload_n 0, .iload 4, .iconst (1), .iadd, .iaload, .invokevirtual 81, .aload_n 2, .aload_n 0, .iload 4, .iconst (1), .iadd, .iaload, .invokevirtual 84, .if_icmp .eq (55)] = true := by decide +kernel
theorem ckb_994 : am_chkB 140 994 [.iconst (0), .ireturn] = true := by decide +kernel
theorem ckb_996 : am_chkB 140 996 [.aload_n 1, .invokevirtual 85, .aload_n 2, .invokevirtual 88, .if_icmp .eq (42)] = true := by decide +kernel
theorem ckb_1007 : am_chkB 140 1007 [.iconst (0), .ireturn] = true := by decide +kernel
theorem ckb_1009 : am_chkB 140 1009 [.aload_n 1, .aload_n 0, .iload 4, .iconst (1), .iadd, .iaload, .aload_n 0, .iload 4, .iconst (2), .iadd, .iaload, .invokevirtual 89, .aload_n 2, .aload_n 0, .iload 4, .iconst (1), .iadd, .iaload, .aload_n 0, .iload 4, .iconst (2), .iadd, .iaload, .invokevirtual 92, .if_icmp .eq (5)] = true := by decide +kernel
theorem ckb_1044 : am_chkB 140 1044 [.iconst (0), .ireturn] = true := by decide +kernel
theorem ckb_1046 : am_chkB 140 1046 [.iinc 4 (8), .goto (-1026)] = true := by decide +kernel
theorem ckb_1052 : am_chkB 140 1052 [.iconst (1), .ireturn] = true := by decide +kernel
set_option maxRecDepth 20000 in
theorem ck_law : am_chk am_law = true := List.all_eq_true.mpr (show ∀ q ∈ kd_140, am_chkB 140 q.1 q.2 = true from List.forall_mem_cons.mpr ⟨ckb_0, List.forall_mem_cons.mpr ⟨ckb_23, List.forall_mem_cons.mpr ⟨ckb_33, List.forall_mem_cons.mpr ⟨ckb_112, List.forall_mem_cons.mpr ⟨ckb_211, List.forall_mem_cons.mpr ⟨ckb_213, List.forall_mem_cons.mpr ⟨ckb_363, List.forall_mem_cons.mpr ⟨ckb_365, List.forall_mem_cons.mpr ⟨ckb_370, List.forall_mem_cons.mpr ⟨ckb_380, List.forall_mem_cons.mpr ⟨ckb_382, List.forall_mem_cons.mpr ⟨ckb_385, List.forall_mem_cons.mpr ⟨ckb_407, List.forall_mem_cons.mpr ⟨ckb_411, List.forall_mem_cons.mpr ⟨ckb_412, List.forall_mem_cons.mpr ⟨ckb_437, List.forall_mem_cons.mpr ⟨ckb_441, List.forall_mem_cons.mpr ⟨ckb_442, List.forall_mem_cons.mpr ⟨ckb_448, List.forall_mem_cons.mpr ⟨ckb_450, List.forall_mem_cons.mpr ⟨ckb_517, List.forall_mem_cons.mpr ⟨ckb_519, List.forall_mem_cons.mpr ⟨ckb_610, List.forall_mem_cons.mpr ⟨ckb_612, List.forall_mem_cons.mpr ⟨ckb_635, List.forall_mem_cons.mpr ⟨ckb_637, List.forall_mem_cons.mpr ⟨ckb_649, List.forall_mem_cons.mpr ⟨ckb_651, List.forall_mem_cons.mpr ⟨ckb_762, List.forall_mem_cons.mpr ⟨ckb_764, List.forall_mem_cons.mpr ⟨ckb_875, List.forall_mem_cons.mpr ⟨ckb_877, List.forall_mem_cons.mpr ⟨ckb_932, List.forall_mem_cons.mpr ⟨ckb_934, List.forall_mem_cons.mpr ⟨ckb_969, List.forall_mem_cons.mpr ⟨ckb_971, List.forall_mem_cons.mpr ⟨ckb_994, List.forall_mem_cons.mpr ⟨ckb_996, List.forall_mem_cons.mpr ⟨ckb_1007, List.forall_mem_cons.mpr ⟨ckb_1009, List.forall_mem_cons.mpr ⟨ckb_1044, List.forall_mem_cons.mpr ⟨ckb_1046, List.forall_mem_cons.mpr ⟨ckb_1052, fun _ h => (List.not_mem_nil h).elim⟩⟩⟩⟩⟩⟩⟩⟩⟩⟩⟩⟩⟩⟩⟩⟩⟩⟩⟩⟩⟩⟩⟩⟩⟩⟩⟩⟩⟩⟩⟩⟩⟩⟩⟩⟩⟩⟩⟩⟩⟩⟩⟩)
end
section
/-! THE ABSTRACT MACHINE IS SOUND: what it says of a method is a contract of the method over the real machine. -/
/-- the tables' words that a call carries along -/
def am_tbl : List Cond := lw_tbl.filter goodWord
def am_cv (ad : Nat → Nat) (v : Value) : Value := match v with
  | .ref k => .ref (ad k)
  | v => v
theorem am_cv_cat (ad : Nat → Nat) (v : Value) : (am_cv ad v).category = v.category := by cases v <;> rfl
theorem am_cat_map (ad : Nat → Nat) (st : List Value) : ((st.map (am_cv ad)).map fun v => v.category) = st.map fun v => v.category := by
  rw [List.map_map]
  exact List.map_congr_left fun v _ => am_cv_cat ad v
def am_at (c : Nat) : FieldType := match c with
  | 0 => .int
  | 1 => .boolean
  | _ => .long
def am_ce (ad : Nat → Nat) (ca : Nat → ClassId) (h : am_H) (k : Nat) : va_E := match (h.2.1 k).1 with
  | 0 => .inl (ca k, (h.2.1 k).2, .inl (h.2.2.1 k))
  | 1 => .inl (ca k, (h.2.1 k).2, .inl (h.2.2.1 k))
  | 2 => .inl (ca k, (h.2.1 k).2, .inr (.inl (h.2.2.2.1 k)))
  | c + 3 => .inr (c, (List.range (am_nf c)).map fun j => am_cv ad (am_fv h c j k))
def am_ws (ad : Nat → Nat) (ca : Nat → ClassId) (h : am_H) : va_W := (List.range h.1).map fun k => (ad k, am_ce ad ca h k)
theorem am_ws_at {ad : Nat → Nat} {ca : Nat → ClassId} {h : am_H} {a : Nat} (ha : a < h.1) : (am_ws ad ca h)[a]? = some (ad a, am_ce ad ca h a) := by
  simp [am_ws, ha]
theorem am_ws_set {ad : Nat → Nat} {ca : Nat → ClassId} {h h' : am_H} {a : Nat} (hn : h'.1 = h.1) (ho : ∀ k, k ≠ a → am_ce ad ca h' k = am_ce ad ca h k) : (am_ws ad ca h).set a (ad a, am_ce ad ca h' a) = am_ws ad ca h' := by
  apply List.ext_getElem?
  intro i
  rw [List.getElem?_set]
  by_cases hi : a = i
  · subst hi
    by_cases hl : a < h.1
    · rw [am_ws_at (h := h') (by rw [hn]; exact hl)]
      simp [am_ws, hl]
    · simp [am_ws, hn, hl]
  · rw [if_neg hi]
    by_cases hl : i < h.1
    · rw [am_ws_at (h := h') (by rw [hn]; exact hl), am_ws_at hl, ho i (fun q => hi q.symm)]
    · simp [am_ws, hn, hl]
theorem am_up_ne {α : Type} {f : Nat → Nat → α} {a j k : Nat} {v : α} (h : k ≠ a) : am_up f a j v k = f k := funext fun _ => if_neg fun q => h q.1
theorem am_up_eq {α : Type} {f : Nat → Nat → α} {a j : Nat} {v : α} : am_up f a j v a = fun i => if i = j then v else f a i := funext fun i => by simp [am_up]
theorem am_ty_some {h : am_H} {a c : Nat} (e : am_ty h a = some c) : a < h.1 ∧ (h.2.1 a).1 = c := by
  unfold am_ty at e
  split at e
  · exact ⟨by assumption, Option.some.inj e⟩
  · cases e
-- which references there are
def am_sv (n : Nat) (v : Value) : Prop := match v with
  | .ref k => k < n ∨ k = 1000
  | _ => True
def am_ss (n : Nat) (st : List Value) : Prop := ∀ v ∈ st, am_sv n v
theorem am_ss.t {n : Nat} {v : Value} {r : List Value} (h : am_ss n (v :: r)) : am_ss n r := fun w hw => h w (List.mem_cons_of_mem _ hw)
theorem am_ss.k {n : Nat} {v : Value} {r : List Value} (h : am_ss n r) (hv : am_sv n v) : am_ss n (v :: r) := fun w hw => by
  rcases List.mem_cons.mp hw with rfl | hw
  · exact hv
  · exact h w hw
theorem am_ss.h {n : Nat} {v : Value} {r : List Value} (h : am_ss n (v :: r)) : am_sv n v := h v List.mem_cons_self
def am_sl (n : Nat) (l : am_L) : Prop := ∀ i v, am_lk l i = some v → am_sv n v
def am_sh (h : am_H) : Prop := ∀ k j, k < h.1 → h.2.2.2.2 k j ≤ h.1
theorem am_sv_up {n n' : Nat} (hn : n ≤ n') {v : Value} (h : am_sv n v) : am_sv n' v := by
  cases v <;> first | trivial | exact h.imp (fun q => Nat.lt_of_lt_of_le q hn) id
theorem am_ss_up {n n' : Nat} (hn : n ≤ n') {st : List Value} (h : am_ss n st) : am_ss n' st := fun v hv => am_sv_up hn (h v hv)
theorem am_cv_ext {n : Nat} {ad ad' : Nat → Nat} (he : ∀ k, k < n ∨ k = 1000 → ad' k = ad k) {v : Value} (h : am_sv n v) : am_cv ad' v = am_cv ad v := by
  cases v <;> first | rfl | exact congrArg Value.ref (he _ h)
theorem am_cvs_ext {n : Nat} {ad ad' : Nat → Nat} (he : ∀ k, k < n ∨ k = 1000 → ad' k = ad k) {st : List Value} (h : am_ss n st) : st.map (am_cv ad') = st.map (am_cv ad) :=
  List.map_congr_left fun v hv => am_cv_ext he (h v hv)
-- the locals
theorem am_lk_s1 : ∀ {l : am_L} {k i : Nat} {v w : Value}, am_lk (am_s1 l k v) i = some w → (i = k ∧ w = v) ∨ (i ≠ k ∧ am_lk l i = some w ∧ ¬ (i + 1 = k ∧ w.category = 2)) := by
  intro l
  induction l with
  | nil => intro k i v w h; simp [am_s1, am_lk] at h
  | cons x t ih =>
    intro k i v w h
    match k, i with
    | 0, 0 => simp [am_s1, am_lk] at h; exact Or.inl ⟨rfl, h.symm⟩
    | 0, i + 1 => simp [am_s1, am_lk] at h; exact Or.inr ⟨by omega, by simpa [am_lk] using h, by omega⟩
    | 1, 0 =>
      simp only [am_s1, am_lk] at h
      refine Or.inr ⟨by omega, ?_, ?_⟩
      · cases x with
        | none => simp [am_kl] at h
        | some y =>
          simp only [am_kl] at h
          split at h
          · cases h
          · simpa [am_lk] using h
      · rintro ⟨-, h2⟩
        cases x with
        | none => simp [am_kl] at h
        | some y =>
          simp only [am_kl] at h
          split at h
          · cases h
          · cases h; contradiction
    | 1, i + 1 =>
      simp only [am_s1, am_lk] at h
      rcases ih h with ⟨h1, h2⟩ | ⟨h1, h2, h3⟩
      · exact Or.inl ⟨by omega, h2⟩
      · exact Or.inr ⟨by omega, by simpa [am_lk] using h2, by omega⟩
    | k + 2, 0 => simp only [am_s1, am_lk] at h; exact Or.inr ⟨by omega, by simpa [am_lk] using h, by omega⟩
    | k + 2, i + 1 =>
      simp only [am_s1, am_lk] at h
      rcases ih h with ⟨h1, h2⟩ | ⟨h1, h2, h3⟩
      · exact Or.inl ⟨by omega, h2⟩
      · exact Or.inr ⟨by omega, by simpa [am_lk] using h2, fun q => h3 ⟨by omega, q.2⟩⟩
theorem am_lk_s2 : ∀ {l : am_L} {k i : Nat} {v w : Value}, am_lk (am_s2 l k v) i = some w → (i = k ∧ w = v) ∨ (i ≠ k ∧ i ≠ k + 1 ∧ am_lk l i = some w ∧ ¬ (i + 1 = k ∧ w.category = 2)) := by
  intro l
  induction l with
  | nil => intro k i v w h; simp [am_s2, am_lk] at h
  | cons x t ih =>
    intro k i v w h
    match k, i with
    | 0, i =>
      match t, i with
      | [], 0 => simp [am_s2, am_lk] at h; exact Or.inl ⟨rfl, h.symm⟩
      | [], i + 1 => simp [am_s2, am_lk] at h
      | y :: t, 0 => simp [am_s2, am_lk] at h; exact Or.inl ⟨rfl, h.symm⟩
      | y :: t, 1 => simp [am_s2, am_lk] at h
      | y :: t, i + 2 => simp [am_s2, am_lk] at h; exact Or.inr ⟨by omega, by omega, by simpa [am_lk] using h, by omega⟩
    | 1, 0 =>
      simp only [am_s2, am_lk] at h
      refine Or.inr ⟨by omega, by omega, ?_, ?_⟩
      · cases x with
        | none => simp [am_kl] at h
        | some y =>
          simp only [am_kl] at h
          split at h
          · cases h
          · simpa [am_lk] using h
      · rintro ⟨-, h2⟩
        cases x with
        | none => simp [am_kl] at h
        | some y =>
          simp only [am_kl] at h
          split at h
          · cases h
          · cases h; contradiction
    | 1, i + 1 =>
      simp only [am_s2, am_lk] at h
      rcases ih h with ⟨h1, h2⟩ | ⟨h1, h4, h2, h3⟩
      · exact Or.inl ⟨by omega, h2⟩
      · exact Or.inr ⟨by omega, by omega, by simpa [am_lk] using h2, by omega⟩
    | k + 2, 0 => simp only [am_s2, am_lk] at h; exact Or.inr ⟨by omega, by omega, by simpa [am_lk] using h, by omega⟩
    | k + 2, i + 1 =>
      simp only [am_s2, am_lk] at h
      rcases ih h with ⟨h1, h2⟩ | ⟨h1, h4, h2, h3⟩
      · exact Or.inl ⟨by omega, h2⟩
      · exact Or.inr ⟨by omega, by omega, by simpa [am_lk] using h2, fun q => h3 ⟨by omega, q.2⟩⟩
/-- the locals as the kit lists them -/
def am_ll (ad : Nat → Nat) (l : am_L) : List (Nat × Value) := (List.range l.length).filterMap fun i => (am_lk l i).map fun v => (i, am_cv ad v)
theorem am_lk_lt : ∀ {l : am_L} {i : Nat} {v : Value}, am_lk l i = some v → i < l.length
  | [], _, _, h => by simp [am_lk] at h
  | _ :: _, 0, _, _ => by simp
  | _ :: t, i + 1, v, h => by have := am_lk_lt (l := t) (i := i) (v := v) h; simp; omega
theorem am_ll_mem {ad : Nat → Nat} {l : am_L} {q : Nat × Value} : q ∈ am_ll ad l ↔ ∃ v, am_lk l q.1 = some v ∧ q.2 = am_cv ad v := by
  obtain ⟨i, w⟩ := q
  constructor
  · intro h
    obtain ⟨k, -, hk⟩ := List.mem_filterMap.mp h
    cases hv : am_lk l k with
    | none => rw [hv] at hk; cases hk
    | some v => rw [hv] at hk; cases hk; exact ⟨v, hv, rfl⟩
  · rintro ⟨v, hv, e⟩
    refine List.mem_filterMap.mpr ⟨i, List.mem_range.mpr (am_lk_lt hv), ?_⟩
    have hv : am_lk l i = some v := hv
    have e : w = am_cv ad v := e
    rw [hv, e]; rfl
abbrev am_lo (ad : Nat → Nat) (nL : Nat) (la : Array Slot) (l : am_L) : Prop := lv_has la nL (am_ll ad l)
theorem am_lo_at {ad : Nat → Nat} {nL : Nat} {la : Array Slot} {l : am_L} (h : am_lo ad nL la l) {i : Nat} {v : Value} (hv : am_lk l i = some v) : la[i]? = some (.val (am_cv ad v)) := h.2.2 (i, am_cv ad v) (am_ll_mem.mpr ⟨v, hv, rfl⟩)
theorem am_lo_le {ad : Nat → Nat} {nL : Nat} {la : Array Slot} {l l' : am_L} (hl : am_le l' l) (h : am_lo ad nL la l) : am_lo ad nL la l' := by
  refine ⟨h.1, h.2.1, fun q hq => ?_⟩
  obtain ⟨v, h1, h2⟩ := am_ll_mem.mp hq
  exact h.2.2 q (am_ll_mem.mpr ⟨v, hl _ _ h1, h2⟩)
theorem am_lo_ext {n : Nat} {ad ad' : Nat → Nat} (he : ∀ k, k < n ∨ k = 1000 → ad' k = ad k) {nL : Nat} {la : Array Slot} {l : am_L} (hs : am_sl n l) (h : am_lo ad nL la l) : am_lo ad' nL la l := by
  refine ⟨h.1, h.2.1, fun q hq => ?_⟩
  obtain ⟨v, h1, h2⟩ := am_ll_mem.mp hq
  rw [am_cv_ext he (hs _ _ h1)] at h2
  exact h.2.2 q (am_ll_mem.mpr ⟨v, h1, h2⟩)
theorem am_lo_s1 {ad : Nat → Nat} {nL k : Nat} {la : Array Slot} {l : am_L} {v : Value} (h : lv_has la nL ((k, am_cv ad v) :: (am_ll ad l).filter (fun q => !(q.1 == k) && !(q.1 + 1 == k && q.2.category == 2)))) : am_lo ad nL la (am_s1 l k v) := by
  refine ⟨h.1, h.2.1, fun q hq => ?_⟩
  obtain ⟨w, h1, h2⟩ := am_ll_mem.mp hq
  rcases am_lk_s1 h1 with ⟨e1, e2⟩ | ⟨n1, e2, n2⟩
  · obtain ⟨i, z⟩ := q
    subst e2
    have e1 : i = k := e1
    have h2 : z = am_cv ad w := h2
    subst e1; subst h2
    exact h.2.2 _ List.mem_cons_self
  · refine h.2.2 q (List.mem_cons_of_mem _ (List.mem_filter.mpr ⟨am_ll_mem.mpr ⟨w, e2, h2⟩, ?_⟩))
    have hc : q.2.category = w.category := by rw [h2, am_cv_cat]
    by_cases hk : q.1 + 1 = k
    · have : ¬ w.category = 2 := fun z => n2 ⟨hk, z⟩
      simp [n1, hc, this]
    · simp [n1, hk]
theorem am_lo_s2 {ad : Nat → Nat} {nL k : Nat} {la : Array Slot} {l : am_L} {v : Value} (h : lv_has la nL ((k, am_cv ad v) :: (am_ll ad l).filter (fun q => !(q.1 == k) && (!(q.1 == k + 1) && !(q.1 + 1 == k && q.2.category == 2))))) : am_lo ad nL la (am_s2 l k v) := by
  refine ⟨h.1, h.2.1, fun q hq => ?_⟩
  obtain ⟨w, h1, h2⟩ := am_ll_mem.mp hq
  rcases am_lk_s2 h1 with ⟨e1, e2⟩ | ⟨n1, n3, e2, n2⟩
  · obtain ⟨i, z⟩ := q
    subst e2
    have e1 : i = k := e1
    have h2 : z = am_cv ad w := h2
    subst e1; subst h2
    exact h.2.2 _ List.mem_cons_self
  · refine h.2.2 q (List.mem_cons_of_mem _ (List.mem_filter.mpr ⟨am_ll_mem.mpr ⟨w, e2, h2⟩, ?_⟩))
    have hc : q.2.category = w.category := by rw [h2, am_cv_cat]
    by_cases hk : q.1 + 1 = k
    · have : ¬ w.category = 2 := fun z => n2 ⟨hk, z⟩
      simp [n1, n3, hc, this]
    · simp [n1, n3, hk]
theorem am_sl_s1 {n k : Nat} {l : am_L} {v : Value} (h : am_sl n l) (hv : am_sv n v) : am_sl n (am_s1 l k v) := fun i w hw => by
  rcases am_lk_s1 hw with ⟨-, e⟩ | ⟨-, e, -⟩
  · rw [e]; exact hv
  · exact h i w e
theorem am_sl_s2 {n k : Nat} {l : am_L} {v : Value} (h : am_sl n l) (hv : am_sv n v) : am_sl n (am_s2 l k v) := fun i w hw => by
  rcases am_lk_s2 hw with ⟨-, e⟩ | ⟨-, -, e, -⟩
  · rw [e]; exact hv
  · exact h i w e
end
section
/-! ONE INSTRUCTION -/
theorem am_fs_set {ad : Nat → Nat} {h h' : am_H} {c a k : Nat} {v : Value} (h1 : am_fv h' c k a = v) (h2 : ∀ j, j ≠ k → am_fv h' c j a = am_fv h c j a) :
    ((List.range (am_nf c)).map fun j => am_cv ad (am_fv h c j a)).set k (am_cv ad v) = (List.range (am_nf c)).map fun j => am_cv ad (am_fv h' c j a) := by
  apply List.ext_getElem?
  intro i
  rw [List.getElem?_set]
  by_cases hi : k = i
  · subst hi
    by_cases hl : k < am_nf c
    · simp [hl, h1]
    · simp [hl]
  · rw [if_neg hi]
    by_cases hl : i < am_nf c
    · simp [hl, h2 i (fun q => hi q.symm)]
    · simp [hl]
theorem am_ce_pi {ad : Nat → Nat} {ca : Nat → ClassId} {h : am_H} {a i k : Nat} {x : Int32} (hk : k ≠ a) : am_ce ad ca (am_pi h a i x) k = am_ce ad ca h k := by
  simp only [am_ce, am_fv, am_pi, am_up_ne hk]
theorem am_ce_pl {ad : Nat → Nat} {ca : Nat → ClassId} {h : am_H} {a i k : Nat} {x : Int64} (hk : k ≠ a) : am_ce ad ca (am_pl h a i x) k = am_ce ad ca h k := by
  simp only [am_ce, am_fv, am_pl, am_up_ne hk]
theorem am_ce_pr {ad : Nat → Nat} {ca : Nat → ClassId} {h : am_H} {a i k : Nat} {x : Nat} (hk : k ≠ a) : am_ce ad ca (am_pr h a i x) k = am_ce ad ca h k := by
  simp only [am_ce, am_fv, am_pr, am_up_ne hk]
def am_cc (D : va_G) (s : State) (ad : Nat → Nat) (ca : Nat → ClassId) (h : am_H) (H : Heap) : Prop :=
  va_P D vwCl (am_ws ad ca h) H ∧ va_K D vwCl [] s ∧ ∀ k, k < h.1 → (h.2.1 k).1 < 3 → ArrOfT s (ca k) (am_at (h.2.1 k).1) ∧ va_RA s (ca k) (am_at (h.2.1 k).1)
theorem am_cc.moved {D : va_G} {u U : State} {ad : Nat → Nat} {ca : Nat → ClassId} {h : am_H} {H : Heap} (hvm : u.vm.Alike U.vm) (e : am_cc D u ad ca h H) : am_cc D U ad ca h H :=
  ⟨e.1, e.2.1.moved hvm, fun k h1 h2 => ⟨arrOfT_moved hvm (e.2.2 k h1 h2).1, (e.2.2 k h1 h2).2.moved hvm⟩⟩
theorem am_cc.arr {D : va_G} {s : State} {ad : Nat → Nat} {ca : Nat → ClassId} {h : am_H} {H : Heap} (e : am_cc D s ad ca h H) {a t : Nat} (ha : am_ty h a = some t) (ht : t < 3) : va_K D vwCl [(ca a, am_at t)] s := by
  obtain ⟨h1, h2⟩ := am_ty_some ha
  refine ⟨e.2.1.1, fun k q hq => ?_⟩
  have hk : k = 0 := by
    have := (List.getElem?_eq_some_iff.mp hq).1
    simp at this; omega
  subst hk
  cases hq
  have := e.2.2 a h1 (by rw [h2]; exact ht)
  rw [h2] at this
  exact this
def am_In (s : State) (D : va_G) (A : Nat → Prop) (j n0 : Nat) (ad0 : Nat → Nat) (ca0 : Nat → ClassId) (l0 : Nat × Nat) (x0 : Nat → Int32) (ad : Nat → Nat) (ca : Nat → ClassId) (la : Array Slot) (H : Heap) (locs : List Loc) (ls : am_L) (st : List Value) (h : am_H) (u : am_U) : Prop :=
  ((∀ k, k < n0 ∨ k = 1000 → ad k = ad0 k) ∧ (∀ k, k < n0 → ca k = ca0 k) ∧ n0 ≤ h.1 ∧ h.1 ≤ 1000 ∧ h.2.1 1000 = l0 ∧ h.2.2.1 1000 = x0 ∧ am_sh h) ∧ (am_cc D s ad ca h H ∧ va_D A (am_ws ad ca h) ∧ va_S A s.heap H locs) ∧ (u.1 ≤ am_mc j ∧ u.2 ≤ am_ms j) ∧ (am_sl h.1 ls ∧ am_lo ad (am_mL j) la ls) ∧ am_ss h.1 st
def am_Y (p : Program) (l : Launch) (e : Env) (R : Room) (s : State) (m : MethodId) (args : Array Value) (below : List Frame) (meth : Method) (c : Code) (Qw : State → Prop) (D : va_G) (A : Nat → Prop) (j n0 : Nat) (ad0 : Nat → Nat) (ca0 : Nat → ClassId) (l0 : Nat × Nat) (x0 : Nat → Int32) : am_X := fun pc ls st h u =>
  ∀ (ad : Nat → Nat) (ca : Nat → ClassId) (la : Array Slot) (H : Heap) (locs : List Loc), am_In s D A j n0 ad0 ca0 l0 x0 ad ca la H locs ls st h u → W p l e R s m args below meth c H locs u.1 u.2 Qw (F0 m pc la (st.map (am_cv ad)))
/-- the links across the nest -/
def am_NS (U : State) : Prop := ∀ q ∈ am_nst, va_Nw (.methodLinkNest q.1 q.2.1 q.2.2.1 q.2.2.2) U
theorem am_NS.warm {s U : State} (hW : s.WarmedH U.vm) (h : am_NS s) : am_NS U := fun q hq => (h q hq).warmM hW
theorem am_NS.same {s U : State} (hv : s.vm = U.vm) (h : am_NS s) : am_NS U := fun q hq => (h q hq).same rfl hv
/-- what holds of the method's frame -/
def am_Cx (p : Program) (s : State) (m : MethodId) (args : Array Value) (meth : Method) (c : Code) (R : Room) (A : Nat → Prop) (j : Nat) (ad0 : Nat → Nat) (l0 : Nat × Nat) (x0 : Nat → Int32) : Prop :=
  p.tables.exec = Jvm.exec ∧ c.code = am_by j ∧ c.maxLocals = am_mL j ∧ s.vm.findClass (am_y j).cls = some m.cls ∧ (∀ w ∈ am_tbl, w.before args s = true) ∧ (am_in j = true → meth.name = "<init>") ∧ (∀ q, s.heap.size ≤ q → A q) ∧ (am_mc j ≤ R.cells ∧ am_ms j ≤ R.slots ∧ am_fr j ≤ R.frames ∧ am_lr j ≤ R.locals) ∧ (j = am_law → va_X (ad0 1000) l0.2 x0 s s.heap ∧ ad0 1000 < s.heap.size ∧ ¬ A (ad0 1000)) ∧ am_NS s
theorem am_N_e {ls : am_L} {st : List Value} {h : am_H} {u : am_U} {c : Prop} {S : am_S} (e : am_N ls st h u = some (c, .inl S)) : S = (ls, st, h, u) := by
  simp only [am_N, Option.some.injEq, Prod.mk.injEq, Sum.inl.injEq] at e; exact e.2.symm
theorem am_Nc_e {q : Prop} {ls : am_L} {st : List Value} {h : am_H} {u : am_U} {c : Prop} {S : am_S} (e : am_Nc q ls st h u = some (c, .inl S)) : c = q ∧ S = (ls, st, h, u) := by
  simp only [am_Nc, Option.some.injEq, Prod.mk.injEq, Sum.inl.injEq] at e; exact ⟨e.1.symm, e.2.symm⟩
theorem am_J_e {pc : Nat} {ls : am_L} {st : List Value} {h : am_H} {u : am_U} {c : Prop} {S : Nat × am_S} (e : am_J pc ls st h u = some (c, .inr (.inl S))) : S = (pc, ls, st, h, u) := by
  simp only [am_J, Option.some.injEq, Prod.mk.injEq, Sum.inr.injEq, Sum.inl.injEq] at e; exact e.2.symm
theorem am_o1_i {st : List Value} {f : Int32 → List Value → Option (Prop × am_O)} {z : Prop × am_O} (e : am_o1 st f = some z) : ∃ x r, st = .int x :: r ∧ f x r = some z := by
  unfold am_o1 at e; split at e
  · exact ⟨_, _, rfl, e⟩
  · cases e
theorem am_o2_i {st : List Value} {f : Int32 → Int32 → List Value → Option (Prop × am_O)} {z : Prop × am_O} (e : am_o2 st f = some z) : ∃ x y r, st = .int y :: .int x :: r ∧ f x y r = some z := by
  unfold am_o2 at e; split at e
  · exact ⟨_, _, _, rfl, e⟩
  · cases e
theorem am_l1_i {st : List Value} {f : Int64 → List Value → Option (Prop × am_O)} {z : Prop × am_O} (e : am_l1 st f = some z) : ∃ x r, st = .long x :: r ∧ f x r = some z := by
  unfold am_l1 at e; split at e
  · exact ⟨_, _, rfl, e⟩
  · cases e
theorem am_l2_i {st : List Value} {f : Int64 → Int64 → List Value → Option (Prop × am_O)} {z : Prop × am_O} (e : am_l2 st f = some z) : ∃ x y r, st = .long y :: .long x :: r ∧ f x y r = some z := by
  unfold am_l2 at e; split at e
  · exact ⟨_, _, _, rfl, e⟩
  · cases e
theorem am_li_i {st : List Value} {f : Int64 → Int32 → List Value → Option (Prop × am_O)} {z : Prop × am_O} (e : am_li st f = some z) : ∃ x y r, st = .int y :: .long x :: r ∧ f x y r = some z := by
  unfold am_li at e; split at e
  · exact ⟨_, _, _, rfl, e⟩
  · cases e
theorem am_a1_i {st : List Value} {f : Nat → List Value → Option (Prop × am_O)} {z : Prop × am_O} (e : am_a1 st f = some z) : ∃ x r, st = .ref x :: r ∧ f x r = some z := by
  unfold am_a1 at e; split at e
  · exact ⟨_, _, rfl, e⟩
  · cases e
theorem am_ai_i {st : List Value} {f : Nat → Int32 → List Value → Option (Prop × am_O)} {z : Prop × am_O} (e : am_ai st f = some z) : ∃ a i r, st = .int i :: .ref a :: r ∧ f a i r = some z := by
  unfold am_ai at e; split at e
  · exact ⟨_, _, _, rfl, e⟩
  · cases e
theorem am_aii_i {st : List Value} {f : Nat → Int32 → Int32 → List Value → Option (Prop × am_O)} {z : Prop × am_O} (e : am_aii st f = some z) : ∃ a i x r, st = .int x :: .int i :: .ref a :: r ∧ f a i x r = some z := by
  unfold am_aii at e; split at e
  · exact ⟨_, _, _, _, rfl, e⟩
  · cases e
theorem am_ail_i {st : List Value} {f : Nat → Int32 → Int64 → List Value → Option (Prop × am_O)} {z : Prop × am_O} (e : am_ail st f = some z) : ∃ a i x r, st = .long x :: .int i :: .ref a :: r ∧ f a i x r = some z := by
  unfold am_ail at e; split at e
  · exact ⟨_, _, _, _, rfl, e⟩
  · cases e
theorem am_av_i {st : List Value} {f : Nat → Value → List Value → Option (Prop × am_O)} {z : Prop × am_O} (e : am_av st f = some z) : ∃ a v r, st = v :: .ref a :: r ∧ f a v r = some z := by
  unfold am_av at e; split at e
  · exact ⟨_, _, _, rfl, e⟩
  · cases e
theorem am_vi_i {w : Option Value} {f : Int32 → Option (Prop × am_O)} {z : Prop × am_O} (e : am_vi w f = some z) : ∃ x, w = some (.int x) ∧ f x = some z := by
  unfold am_vi at e; split at e
  · exact ⟨_, rfl, e⟩
  · cases e
theorem am_vl_i {w : Option Value} {f : Int64 → Option (Prop × am_O)} {z : Prop × am_O} (e : am_vl w f = some z) : ∃ x, w = some (.long x) ∧ f x = some z := by
  unfold am_vl at e; split at e
  · exact ⟨_, rfl, e⟩
  · cases e
theorem am_va_i {w : Option Value} {f : Nat → Option (Prop × am_O)} {z : Prop × am_O} (e : am_va w f = some z) : ∃ x, w = some (.ref x) ∧ f x = some z := by
  unfold am_va at e; split at e
  · exact ⟨_, rfl, e⟩
  · cases e
section AST
variable {p : Program} {l : Launch} {e : Env} {R : Room} {s : State} {m : MethodId} {args : Array Value} {below : List Frame} {meth : Method} {c : Code} {Qw : State → Prop} {D : va_G} {A : Nat → Prop} {j n0 : Nat} {ad0 : Nat → Nat} {ca0 : Nat → ClassId} {l0 : Nat × Nat} {x0 : Nat → Int32}
/-- numbers, locals, the stack -/
theorem am_stA (cx : am_Cx p s m args meth c R A j ad0 l0 x0) {i : Jvm.ClassFile.Instr} {pc : Nat} {ls : am_L} {st : List Value} {h : am_H} {u : am_U} {q : Prop} {S : am_S} (hd : decode (am_by j) pc = .ok (i, am_lp i pc)) (hok : am_okA j i = true) (hs : am_sem j i pc ls st h u = some (q, .inl S)) (hc : q) (ho : am_Y p l e R s m args below meth c Qw D A j n0 ad0 ca0 l0 x0 (pc + am_len i) S.1 S.2.1 S.2.2.1 S.2.2.2) : am_Y p l e R s m args below meth c Qw D A j n0 ad0 ca0 l0 x0 pc ls st h u := by
  obtain ⟨hx, hb, hml, hown, hts, hini, hA, ⟨hRc, hRs, hRf, hRl⟩, hscr⟩ := cx
  intro ad ca la H locs hin
  obtain ⟨hB, hW, hu, hl, hst⟩ := hin
  cases i
  case iconst n =>
    obtain rfl := am_N_e hs
    exact lv_iconst hx hb hd rfl (ho ad ca la H locs ⟨hB, hW, hu, hl, hst.k trivial⟩)
  case bipush n =>
    obtain rfl := am_N_e hs
    exact lv_bipush hx hb hd rfl (ho ad ca la H locs ⟨hB, hW, hu, hl, hst.k trivial⟩)
  case sipush n =>
    obtain rfl := am_N_e hs
    exact lv_sipush hx hb hd rfl (ho ad ca la H locs ⟨hB, hW, hu, hl, hst.k trivial⟩)
  case lconst n =>
    obtain rfl := am_N_e hs
    exact lv_lconst hx hb hd rfl (ho ad ca la H locs ⟨hB, hW, hu, hl, hst.k trivial⟩)
  case iload k =>
    obtain ⟨x, hv, hs⟩ := am_vi_i hs
    obtain rfl := am_N_e hs
    exact lv_iload hx hb hd (am_lo_at hl.2 hv) (ho ad ca la H locs ⟨hB, hW, hu, hl, hst.k trivial⟩)
  case iload_n k =>
    obtain ⟨x, hv, hs⟩ := am_vi_i hs
    obtain rfl := am_N_e hs
    exact lv_iload_n hx hb hd rfl (am_lo_at hl.2 hv) (ho ad ca la H locs ⟨hB, hW, hu, hl, hst.k trivial⟩)
  case lload k =>
    obtain ⟨x, hv, hs⟩ := am_vl_i hs
    obtain rfl := am_N_e hs
    exact lv_lload hx hb hd (am_lo_at hl.2 hv) (ho ad ca la H locs ⟨hB, hW, hu, hl, hst.k trivial⟩)
  case lload_n k =>
    obtain ⟨x, hv, hs⟩ := am_vl_i hs
    obtain rfl := am_N_e hs
    exact lv_lload_n hx hb hd rfl (am_lo_at hl.2 hv) (ho ad ca la H locs ⟨hB, hW, hu, hl, hst.k trivial⟩)
  case aload k =>
    obtain ⟨x, hv, hs⟩ := am_va_i hs
    obtain rfl := am_N_e hs
    exact lv_aload hx hb hd (am_lo_at hl.2 hv) (ho ad ca la H locs ⟨hB, hW, hu, hl, hst.k (hl.1 _ _ hv)⟩)
  case aload_n k =>
    obtain ⟨x, hv, hs⟩ := am_va_i hs
    obtain rfl := am_N_e hs
    exact lv_aload_n hx hb hd rfl (am_lo_at hl.2 hv) (ho ad ca la H locs ⟨hB, hW, hu, hl, hst.k (hl.1 _ _ hv)⟩)
  case istore k =>
    obtain ⟨x, r, rfl, hs⟩ := am_o1_i hs
    obtain rfl := am_N_e hs
    exact lv_istore hx hb hd hl.2 (of_decide_eq_true hok) rfl (fun la hl' => ho ad ca la H locs ⟨hB, hW, hu, ⟨am_sl_s1 hl.1 trivial, am_lo_s1 hl'⟩, hst.t⟩)
  case istore_n k =>
    obtain ⟨x, r, rfl, hs⟩ := am_o1_i hs
    obtain rfl := am_N_e hs
    exact lv_istore_n hx hb hd rfl hl.2 (of_decide_eq_true hok) rfl (fun la hl' => ho ad ca la H locs ⟨hB, hW, hu, ⟨am_sl_s1 hl.1 trivial, am_lo_s1 hl'⟩, hst.t⟩)
  case lstore k =>
    obtain ⟨x, r, rfl, hs⟩ := am_l1_i hs
    obtain rfl := am_N_e hs
    exact lv_lstore hx hb hd hl.2 (of_decide_eq_true hok) rfl (fun la hl' => ho ad ca la H locs ⟨hB, hW, hu, ⟨am_sl_s2 hl.1 trivial, am_lo_s2 hl'⟩, hst.t⟩)
  case lstore_n k =>
    obtain ⟨x, r, rfl, hs⟩ := am_l1_i hs
    obtain rfl := am_N_e hs
    exact lv_lstore_n hx hb hd rfl hl.2 (of_decide_eq_true hok) rfl (fun la hl' => ho ad ca la H locs ⟨hB, hW, hu, ⟨am_sl_s2 hl.1 trivial, am_lo_s2 hl'⟩, hst.t⟩)
  case astore k =>
    obtain ⟨x, r, rfl, hs⟩ := am_a1_i hs
    obtain rfl := am_N_e hs
    exact lv_astore hx hb hd hl.2 (of_decide_eq_true hok) rfl (fun la hl' => ho ad ca la H locs ⟨hB, hW, hu, ⟨am_sl_s1 hl.1 hst.h, am_lo_s1 hl'⟩, hst.t⟩)
  case astore_n k =>
    obtain ⟨x, r, rfl, hs⟩ := am_a1_i hs
    obtain rfl := am_N_e hs
    exact lv_astore_n hx hb hd rfl hl.2 (of_decide_eq_true hok) rfl (fun la hl' => ho ad ca la H locs ⟨hB, hW, hu, ⟨am_sl_s1 hl.1 hst.h, am_lo_s1 hl'⟩, hst.t⟩)
  case iinc k n =>
    obtain ⟨x, hv, hs⟩ := am_vi_i hs
    obtain rfl := am_N_e hs
    obtain ⟨z, hz⟩ := List.getElem?_of_mem (am_ll_mem (ad := ad) (l := ls) (q := (k, .int x)) |>.mpr ⟨_, hv, rfl⟩)
    exact lv_iinc hx hb hd hl.2 hz rfl (of_decide_eq_true hok) rfl (fun la hl' => ho ad ca la H locs ⟨hB, hW, hu, ⟨am_sl_s1 hl.1 trivial, am_lo_s1 (v := .int (x + Int32.ofInt n)) hl'⟩, hst⟩)
  case iadd =>
    obtain ⟨x, y, r, rfl, hs⟩ := am_o2_i hs
    obtain rfl := am_N_e hs
    exact lv_iadd hx hb hd (ho ad ca la H locs ⟨hB, hW, hu, hl, hst.t.t.k trivial⟩)
  case isub =>
    obtain ⟨x, y, r, rfl, hs⟩ := am_o2_i hs
    obtain rfl := am_N_e hs
    exact lv_isub hx hb hd (ho ad ca la H locs ⟨hB, hW, hu, hl, hst.t.t.k trivial⟩)
  case imul =>
    obtain ⟨x, y, r, rfl, hs⟩ := am_o2_i hs
    obtain rfl := am_N_e hs
    exact lv_imul hx hb hd (ho ad ca la H locs ⟨hB, hW, hu, hl, hst.t.t.k trivial⟩)
  case iand =>
    obtain ⟨x, y, r, rfl, hs⟩ := am_o2_i hs
    obtain rfl := am_N_e hs
    exact lv_iand hx hb hd (ho ad ca la H locs ⟨hB, hW, hu, hl, hst.t.t.k trivial⟩)
  case ior =>
    obtain ⟨x, y, r, rfl, hs⟩ := am_o2_i hs
    obtain rfl := am_N_e hs
    exact lv_ior hx hb hd (ho ad ca la H locs ⟨hB, hW, hu, hl, hst.t.t.k trivial⟩)
  case ishl =>
    obtain ⟨x, y, r, rfl, hs⟩ := am_o2_i hs
    obtain rfl := am_N_e hs
    exact lv_ishl hx hb hd (ho ad ca la H locs ⟨hB, hW, hu, hl, hst.t.t.k trivial⟩)
  case ishr =>
    obtain ⟨x, y, r, rfl, hs⟩ := am_o2_i hs
    obtain rfl := am_N_e hs
    exact lv_ishr hx hb hd (ho ad ca la H locs ⟨hB, hW, hu, hl, hst.t.t.k trivial⟩)
  case ladd =>
    obtain ⟨x, y, r, rfl, hs⟩ := am_l2_i hs
    obtain rfl := am_N_e hs
    exact lv_ladd hx hb hd (ho ad ca la H locs ⟨hB, hW, hu, hl, hst.t.t.k trivial⟩)
  case lsub =>
    obtain ⟨x, y, r, rfl, hs⟩ := am_l2_i hs
    obtain rfl := am_N_e hs
    exact lv_lsub hx hb hd (ho ad ca la H locs ⟨hB, hW, hu, hl, hst.t.t.k trivial⟩)
  case lmul =>
    obtain ⟨x, y, r, rfl, hs⟩ := am_l2_i hs
    obtain rfl := am_N_e hs
    exact lv_lmul hx hb hd (ho ad ca la H locs ⟨hB, hW, hu, hl, hst.t.t.k trivial⟩)
  case land =>
    obtain ⟨x, y, r, rfl, hs⟩ := am_l2_i hs
    obtain rfl := am_N_e hs
    exact lv_land hx hb hd (ho ad ca la H locs ⟨hB, hW, hu, hl, hst.t.t.k trivial⟩)
  case lor =>
    obtain ⟨x, y, r, rfl, hs⟩ := am_l2_i hs
    obtain rfl := am_N_e hs
    exact lv_lor hx hb hd (ho ad ca la H locs ⟨hB, hW, hu, hl, hst.t.t.k trivial⟩)
  case lxor =>
    obtain ⟨x, y, r, rfl, hs⟩ := am_l2_i hs
    obtain rfl := am_N_e hs
    exact lv_lxor hx hb hd (ho ad ca la H locs ⟨hB, hW, hu, hl, hst.t.t.k trivial⟩)
  case idiv =>
    obtain ⟨x, y, r, rfl, hs⟩ := am_o2_i hs
    obtain ⟨rfl, rfl⟩ := am_Nc_e hs
    exact lv_idiv hx hb hd hc (ho ad ca la H locs ⟨hB, hW, hu, hl, hst.t.t.k trivial⟩)
  case irem =>
    obtain ⟨x, y, r, rfl, hs⟩ := am_o2_i hs
    obtain ⟨rfl, rfl⟩ := am_Nc_e hs
    exact lv_irem hx hb hd hc (ho ad ca la H locs ⟨hB, hW, hu, hl, hst.t.t.k trivial⟩)
  case ldiv =>
    obtain ⟨x, y, r, rfl, hs⟩ := am_l2_i hs
    obtain ⟨rfl, rfl⟩ := am_Nc_e hs
    exact lv_ldiv hx hb hd hc (ho ad ca la H locs ⟨hB, hW, hu, hl, hst.t.t.k trivial⟩)
  case ineg =>
    obtain ⟨x, r, rfl, hs⟩ := am_o1_i hs
    obtain rfl := am_N_e hs
    exact lv_ineg hx hb hd (ho ad ca la H locs ⟨hB, hW, hu, hl, hst.t.k trivial⟩)
  case lneg =>
    obtain ⟨x, r, rfl, hs⟩ := am_l1_i hs
    obtain rfl := am_N_e hs
    exact lv_lneg hx hb hd (ho ad ca la H locs ⟨hB, hW, hu, hl, hst.t.k trivial⟩)
  case i2l =>
    obtain ⟨x, r, rfl, hs⟩ := am_o1_i hs
    obtain rfl := am_N_e hs
    exact lv_i2l hx hb hd rfl (ho ad ca la H locs ⟨hB, hW, hu, hl, hst.t.k trivial⟩)
  case l2i =>
    obtain ⟨x, r, rfl, hs⟩ := am_l1_i hs
    obtain rfl := am_N_e hs
    exact lv_l2i hx hb hd rfl (ho ad ca la H locs ⟨hB, hW, hu, hl, hst.t.k trivial⟩)
  case lushr =>
    obtain ⟨x, y, r, rfl, hs⟩ := am_li_i hs
    obtain rfl := am_N_e hs
    exact lv_lushr hx hb hd rfl (ho ad ca la H locs ⟨hB, hW, hu, hl, hst.t.t.k trivial⟩)
  case lshl =>
    obtain ⟨x, y, r, rfl, hs⟩ := am_li_i hs
    obtain rfl := am_N_e hs
    exact lv_lshl hx hb hd rfl (ho ad ca la H locs ⟨hB, hW, hu, hl, hst.t.t.k trivial⟩)
  case lcmp =>
    obtain ⟨x, y, r, rfl, hs⟩ := am_l2_i hs
    obtain rfl := am_N_e hs
    exact W.lcmp hx hb hd (ho ad ca la H locs ⟨hB, hW, hu, hl, hst.t.t.k trivial⟩)
  case dup =>
    match st, hs, hst with
    | v :: r, hs, hst =>
      obtain ⟨rfl, rfl⟩ := am_Nc_e hs
      exact lv_dup hx hb hd ((am_cv_cat ad v).trans hc) (ho ad ca la H locs ⟨hB, hW, hu, hl, hst.k hst.h⟩)
  case dup2 =>
    match st, hs, hst with
    | v :: w :: r, hs, hst =>
      obtain ⟨rfl, rfl⟩ := am_Nc_e hs
      exact lv_dup2_11 hx hb hd ((am_cv_cat ad v).trans hc.1) ((am_cv_cat ad w).trans hc.2) (ho ad ca la H locs ⟨hB, hW, hu, hl, (hst.k hst.t.h).k hst.h⟩)
  all_goals exact (Bool.false_ne_true hok).elim
theorem am_tg_ok {pc : Nat} {off : Int} (h : 0 ≤ (pc : Int) + off) : (pc : Int) + off = (am_tg pc off : Int) := (Int.toNat_of_nonneg h).symm
theorem am_lk_ok {pc : Nat} {d x : Int} (hd : 0 ≤ (pc : Int) + d) : ∀ (ps : List (Int × Int)), ps.all (fun z => decide (0 ≤ (pc : Int) + z.2)) = true → 0 ≤ (pc : Int) + Op.lookupswitch.offset ps d x
  | [], _ => hd
  | (a, o) :: r, h => by
    rw [List.all_cons, Bool.and_eq_true] at h
    rw [Op.lookupswitch.offset_cons]
    split
    · exact of_decide_eq_true h.1
    · exact am_lk_ok hd r h.2
/-- jumps -/
theorem am_stJ (cx : am_Cx p s m args meth c R A j ad0 l0 x0) {i : Jvm.ClassFile.Instr} {pc : Nat} {ls : am_L} {st : List Value} {h : am_H} {u : am_U} {q : Prop} {S : Nat × am_S} (hd : decode (am_by j) pc = .ok (i, am_lp i pc)) (hok : am_okJ pc i = true) (hs : am_sem j i pc ls st h u = some (q, .inr (.inl S))) (ho : am_Y p l e R s m args below meth c Qw D A j n0 ad0 ca0 l0 x0 S.1 S.2.1 S.2.2.1 S.2.2.2.1 S.2.2.2.2) : am_Y p l e R s m args below meth c Qw D A j n0 ad0 ca0 l0 x0 pc ls st h u := by
  obtain ⟨hx, hb, hml, hown, hts, hini, hA, ⟨hRc, hRs, hRf, hRl⟩, hscr⟩ := cx
  intro ad ca la H locs hin
  obtain ⟨hB, hW, hu, hl, hst⟩ := hin
  cases i
  case goto off =>
    obtain rfl := am_J_e hs
    exact lv_goto hx hb hd (am_tg_ok (of_decide_eq_true hok)) (ho ad ca la H locs ⟨hB, hW, hu, hl, hst⟩)
  case ifCond cd off =>
    obtain ⟨x, r, rfl, hs⟩ := am_o1_i hs
    obtain rfl := am_J_e hs
    have ho : am_Y p l e R s m args below meth c Qw D A j n0 ad0 ca0 l0 x0 (if am_c1 cd x = true then am_tg pc off else pc + 3) ls r h u := ho
    have ht := am_tg_ok (pc := pc) (off := off) (of_decide_eq_true hok)
    have hp : am_c1 cd x = true → W p l e R s m args below meth c H locs u.1 u.2 Qw (F0 m (am_tg pc off) la (r.map (am_cv ad))) := fun hz => by
      rw [if_pos hz] at ho; exact ho ad ca la H locs ⟨hB, hW, hu, hl, hst.t⟩
    have hn : ¬ am_c1 cd x = true → W p l e R s m args below meth c H locs u.1 u.2 Qw (F0 m (pc + 3) la (r.map (am_cv ad))) := fun hz => by
      rw [if_neg hz] at ho; exact ho ad ca la H locs ⟨hB, hW, hu, hl, hst.t⟩
    cases cd
    · exact lv_if_eq hx hb hd ht (fun z => hp (decide_eq_true z)) (fun z => hn (fun w => z (of_decide_eq_true w)))
    · exact lv_if_ne hx hb hd ht (fun z => hp (decide_eq_true z)) (fun z => hn (fun w => of_decide_eq_true w z))
    · exact lv_if_lt hx hb hd ht (fun z => hp (decide_eq_true z)) (fun z => hn (fun w => z (of_decide_eq_true w)))
    · exact lv_if_ge hx hb hd ht (fun z => hp (decide_eq_true z)) (fun z => hn (fun w => z (of_decide_eq_true w)))
    · exact lv_if_gt hx hb hd ht (fun z => hp (decide_eq_true z)) (fun z => hn (fun w => z (of_decide_eq_true w)))
    · exact lv_if_le hx hb hd ht (fun z => hp (decide_eq_true z)) (fun z => hn (fun w => z (of_decide_eq_true w)))
  case if_icmp cd off =>
    obtain ⟨x, y, r, rfl, hs⟩ := am_o2_i hs
    obtain rfl := am_J_e hs
    have ho : am_Y p l e R s m args below meth c Qw D A j n0 ad0 ca0 l0 x0 (if am_c2 cd x y = true then am_tg pc off else pc + 3) ls r h u := ho
    have ht := am_tg_ok (pc := pc) (off := off) (of_decide_eq_true hok)
    have hp : am_c2 cd x y = true → W p l e R s m args below meth c H locs u.1 u.2 Qw (F0 m (am_tg pc off) la (r.map (am_cv ad))) := fun hz => by
      rw [if_pos hz] at ho; exact ho ad ca la H locs ⟨hB, hW, hu, hl, hst.t.t⟩
    have hn : ¬ am_c2 cd x y = true → W p l e R s m args below meth c H locs u.1 u.2 Qw (F0 m (pc + 3) la (r.map (am_cv ad))) := fun hz => by
      rw [if_neg hz] at ho; exact ho ad ca la H locs ⟨hB, hW, hu, hl, hst.t.t⟩
    cases cd
    · exact lv_icmp_eq hx hb hd ht (fun z => hp (decide_eq_true z)) (fun z => hn (fun w => z (of_decide_eq_true w)))
    · exact lv_icmp_ne hx hb hd ht (fun z => hp (decide_eq_true z)) (fun z => hn (fun w => of_decide_eq_true w z))
    · exact lv_icmp_lt hx hb hd ht (fun z => hp (decide_eq_true z)) (fun z => hn (fun w => z (of_decide_eq_true w)))
    · exact lv_icmp_ge hx hb hd ht (fun z => hp (decide_eq_true z)) (fun z => hn (fun w => z (of_decide_eq_true w)))
    · exact lv_icmp_gt hx hb hd ht (fun z => hp (decide_eq_true z)) (fun z => hn (fun w => z (of_decide_eq_true w)))
    · exact lv_icmp_le hx hb hd ht (fun z => hp (decide_eq_true z)) (fun z => hn (fun w => z (of_decide_eq_true w)))
  case tableswitch dd lo hi offs =>
    obtain ⟨x, r, rfl, hs⟩ := am_o1_i hs
    obtain rfl := am_J_e hs
    have ho : am_Y p l e R s m args below meth c Qw D A j n0 ad0 ca0 l0 x0 (if x.toInt < lo ∨ hi < x.toInt then am_tg pc dd else am_tg pc (offs.toList.getD (x.toInt - lo).toNat dd)) ls r h u := ho
    have hok : (decide (0 ≤ (pc : Int) + dd) && offs.toList.all (fun z => decide (0 ≤ (pc : Int) + z)) && decide ((offs.size : Int) = hi - lo + 1)) = true := hok
    simp only [Bool.and_eq_true, decide_eq_true_eq] at hok
    obtain ⟨⟨h1, h2⟩, h3⟩ := hok
    by_cases hz : x.toInt < lo ∨ hi < x.toInt
    · rw [if_pos hz] at ho
      exact lv_tableOut hx hb hd hz (am_tg_ok h1) (ho ad ca la H locs ⟨hB, hW, hu, hl, hst.t⟩)
    · rw [if_neg hz] at ho
      have n1 : ¬ x.toInt < lo := fun w => hz (Or.inl w)
      have n2 : ¬ hi < x.toInt := fun w => hz (Or.inr w)
      have hlt : (x.toInt - lo).toNat < offs.size := by omega
      have hg : offs[(x.toInt - lo).toNat]? = some (offs.toList.getD (x.toInt - lo).toNat dd) := by
        simp [List.getD, hlt]
      have hm : offs.toList.getD (x.toInt - lo).toNat dd ∈ offs.toList := by
        refine List.mem_of_getElem? (i := (x.toInt - lo).toNat) ?_
        rw [Array.getElem?_toList]; exact hg
      exact lv_tableIn hx hb hd n1 n2 hg (am_tg_ok (of_decide_eq_true (List.all_eq_true.mp h2 _ hm))) (ho ad ca la H locs ⟨hB, hW, hu, hl, hst.t⟩)
  case lookupswitch dd ps =>
    obtain ⟨x, r, rfl, hs⟩ := am_o1_i hs
    obtain rfl := am_J_e hs
    have hok : (decide (0 ≤ (pc : Int) + dd) && ps.toList.all (fun z => decide (0 ≤ (pc : Int) + z.2)) && (ps.toList.zip (ps.toList.drop 1)).all (fun (a, next) => a.1 < next.1)) = true := hok
    rw [Bool.and_eq_true, Bool.and_eq_true] at hok
    obtain ⟨⟨h1, h2⟩, h3⟩ := hok
    exact lv_lookup hx hb hd h3 rfl (am_tg_ok (am_lk_ok (of_decide_eq_true h1) _ h2)) (ho ad ca la H locs ⟨hB, hW, hu, hl, hst.t⟩)
  all_goals exact (Bool.false_ne_true hok).elim
end AST
end
section
/-! THE HEAP: fields, arrays -/
def am_fto (ty : FieldType) (f : Nat) : Bool := match f, ty with
  | 0, .int => true
  | 1, .boolean => true
  | 2, .long => true
  | 3, .object _ => true
  | 3, .array _ => true
  | _, _ => false
/-- a class as the tables have it -/
def am_CO (c : Nat) : Prop := ∃ (T : u_T) (ty0 : Nat → FieldType), vwCl[c]? = some (am_cn c, T, am_nf c) ∧ (∀ w ∈ u_ws (am_cn c) T (am_nf c), w ∈ am_tbl) ∧ (∀ k, k < am_nf c → parseFieldDescriptor (T k).2.2.1 = some (ty0 k)) ∧ (∀ a, a < am_nf c → ∀ b, b < am_nf c → a ≠ b → (T a).2.1 ≠ (T b).2.1) ∧ (∀ k, k < am_nf c → am_fto (ty0 k) (am_ft c k) = true ∧ (T k).2.2.2 = am_ff c k ∧ (T k).1 = am_cn c)
/-- a field's link -/
def am_FO (own x c k : Nat) : Prop := k < am_nf c ∧ am_CO c ∧ ∀ (T : u_T) (n : Nat), vwCl[c]? = some (am_cn c, T, n) → Cond.fieldLink (am_cn own) x (T k).1 (T k).2.1 (T k).2.2.1 ∈ am_tbl
theorem am_ce_obj {ad : Nat → Nat} {ca : Nat → ClassId} {h : am_H} {a c : Nat} (e : (h.2.1 a).1 = c + 3) : am_ce ad ca h a = .inr (c, (List.range (am_nf c)).map fun j => am_cv ad (am_fv h c j a)) := by
  unfold am_ce; rw [e]
theorem am_ce_0 {ad : Nat → Nat} {ca : Nat → ClassId} {h : am_H} {a : Nat} (e : (h.2.1 a).1 = 0) : am_ce ad ca h a = .inl (ca a, am_sz h a, .inl (h.2.2.1 a)) := by
  unfold am_ce; rw [e]; rfl
theorem am_ce_1 {ad : Nat → Nat} {ca : Nat → ClassId} {h : am_H} {a : Nat} (e : (h.2.1 a).1 = 1) : am_ce ad ca h a = .inl (ca a, am_sz h a, .inl (h.2.2.1 a)) := by
  unfold am_ce; rw [e]; rfl
theorem am_ce_2 {ad : Nat → Nat} {ca : Nat → ClassId} {h : am_H} {a : Nat} (e : (h.2.1 a).1 = 2) : am_ce ad ca h a = .inl (ca a, am_sz h a, .inr (.inl (h.2.2.2.1 a))) := by
  unfold am_ce; rw [e]; rfl
theorem am_sv_fv {h : am_H} {c k a : Nat} (hh : am_sh h) (ha : a < h.1) : am_sv h.1 (am_fv h c k a) := by
  unfold am_fv
  split
  · trivial
  · trivial
  · trivial
  · have hr := hh a k ha
    cases hz : h.2.2.2.2 a k with
    | zero => trivial
    | succ z => rw [hz] at hr; exact Or.inl hr
/-- a field's new value -/
theorem am_fp_i {h h' : am_H} {c k a : Nat} {v : Value} {q : Prop} (e : am_fp h c k a v = some (q, h')) (hq : q) :
    h'.1 = h.1 ∧ h'.2.1 = h.2.1 ∧ (∀ z, z ≠ a → h'.2.2.1 z = h.2.2.1 z) ∧ (∀ (ad : Nat → Nat) (ca : Nat → ClassId) (z : Nat), z ≠ a → am_ce ad ca h' z = am_ce ad ca h z) ∧ am_fv h' c k a = v ∧ (∀ i, i ≠ k → am_fv h' c i a = am_fv h c i a) ∧ (am_sh h → am_sh h') ∧ ∀ ty, am_fto ty (am_ft c k) = true → ∀ ad, narrow ty (am_cv ad v) = am_cv ad v ∧ fits ty (am_cv ad v) = true := by
  unfold am_fp at e
  split at e
  · cases e
    rename_i x hf
    refine ⟨rfl, rfl, fun z hz => am_up_ne hz, fun ad ca z hz => am_ce_pi hz, ?_, fun i hi => ?_, fun hh => hh, fun ty ht ad => ?_⟩
    · simp [am_fv, hf, am_pi, am_up]
    · simp [am_fv, am_pi, am_up, hi]
    · rw [hf] at ht
      cases ty <;> first | exact (Bool.false_ne_true ht).elim | exact ⟨rfl, rfl⟩
  · cases e
    rename_i x hf
    refine ⟨rfl, rfl, fun z hz => am_up_ne hz, fun ad ca z hz => am_ce_pi hz, ?_, fun i hi => ?_, fun hh => hh, fun ty ht ad => ?_⟩
    · simp [am_fv, hf, am_pi, am_up]
    · simp [am_fv, am_pi, am_up, hi]
    · rw [hf] at ht
      cases ty <;> first | exact (Bool.false_ne_true ht).elim | (rcases hq with rfl | rfl <;> exact ⟨rfl, rfl⟩)
  · cases e
    rename_i x hf
    refine ⟨rfl, rfl, fun z hz => rfl, fun ad ca z hz => am_ce_pl hz, ?_, fun i hi => ?_, fun hh => hh, fun ty ht ad => ?_⟩
    · simp [am_fv, hf, am_pl, am_up]
    · simp [am_fv, am_pl, am_up, hi]
    · rw [hf] at ht
      cases ty <;> first | exact (Bool.false_ne_true ht).elim | exact ⟨rfl, rfl⟩
  · cases e
    rename_i r hf
    refine ⟨rfl, rfl, fun z hz => rfl, fun ad ca z hz => am_ce_pr hz, ?_, fun i hi => ?_, fun hh z i hz => ?_, fun ty ht ad => ?_⟩
    · simp [am_fv, hf, am_pr, am_up, am_rv]
    · simp [am_fv, am_pr, am_up, hi]
    · have hq : r < h.1 := hq
      show am_up h.2.2.2.2 a k (r + 1) z i ≤ h.1
      unfold am_up
      split
      · exact hq
      · exact hh z i hz
    · rw [hf] at ht
      cases ty <;> first | exact (Bool.false_ne_true ht).elim | exact ⟨rfl, rfl⟩
  · cases e
section AHP
variable {p : Program} {l : Launch} {e : Env} {R : Room} {s : State} {m : MethodId} {args : Array Value} {below : List Frame} {meth : Method} {c : Code} {Qw : State → Prop} {D : va_G} {A : Nat → Prop} {j n0 : Nat} {ad0 : Nat → Nat} {ca0 : Nat → ClassId} {l0 : Nat × Nat} {x0 : Nat → Int32}
theorem am_stF (hF : ∀ own x c k, am_rf own x = some (c, k) → am_FO own x c k) (hcn : (am_y j).cls = am_cn (am_ow j)) (cx : am_Cx p s m args meth c R A j ad0 l0 x0) {i : Jvm.ClassFile.Instr} {pc : Nat} {ls : am_L} {st : List Value} {h : am_H} {u : am_U} {q : Prop} {S : am_S} (hd : decode (am_by j) pc = .ok (i, am_lp i pc)) (hok : am_okF i = true) (hs : am_sem j i pc ls st h u = some (q, .inl S)) (hc : q) (ho : am_Y p l e R s m args below meth c Qw D A j n0 ad0 ca0 l0 x0 (pc + am_len i) S.1 S.2.1 S.2.2.1 S.2.2.2) : am_Y p l e R s m args below meth c Qw D A j n0 ad0 ca0 l0 x0 pc ls st h u := by
  obtain ⟨hx, hb, hml, hown, hts, hini, hA, ⟨hRc, hRs, hRf, hRl⟩, hscr⟩ := cx
  rw [hcn] at hown
  intro ad ca la H locs hin
  obtain ⟨hB, ⟨hCC, hD, hS⟩, hu, hl, hst⟩ := hin
  cases i
  case getfield x =>
    simp only [am_sem] at hs
    cases hr : am_rf (am_ow j) x with
    | none => rw [hr] at hs; cases hs
    | some ck =>
      obtain ⟨cn, k⟩ := ck
      rw [hr] at hs
      obtain ⟨a, r, rfl, hs⟩ := am_a1_i hs
      obtain ⟨rfl, rfl⟩ := am_Nc_e hs
      obtain ⟨ha, hk⟩ := am_ty_some hc
      obtain ⟨hkn, ⟨T, ty0, t1, t2, t3, t4, t5⟩, t6⟩ := hF _ _ _ _ hr
      refine va_get (D := D) (ci := cn) (v := am_cv ad (am_fv h cn k a)) hx hb hts t2 hown hCC.2.1 hCC.1 a (am_ws_at ha |>.trans (by rw [am_ce_obj hk])) t1 k hkn (hts _ (t6 T _ t1)) (fun _ h9 => h9) ?_ hd (ho ad ca la H locs ⟨hB, ⟨hCC, hD, hS⟩, hu, hl, hst.t.k (am_sv_fv hB.2.2.2.2.2.2 ha)⟩)
      simp [hkn]
  case putfield x =>
    simp only [am_sem] at hs
    cases hr : am_rf (am_ow j) x with
    | none => rw [hr] at hs; cases hs
    | some ck =>
      obtain ⟨cn, k⟩ := ck
      rw [hr] at hs
      obtain ⟨a, v, r, est, hs2⟩ := am_av_i hs
      clear hs
      subst est
      cases hf : am_fp h cn k a v with
      | none => simp only [hf] at hs2; cases hs2
      | some qh =>
        obtain ⟨q', h'⟩ := qh
        simp only [hf] at hs2
        obtain ⟨rfl, rfl⟩ := am_Nc_e hs2
        obtain ⟨hc1, hc2, hc3⟩ := hc
        obtain ⟨ha, hk⟩ := am_ty_some hc1
        obtain ⟨hkn, ⟨T, ty0, t1, t2, t3, t4, t5⟩, t6⟩ := hF _ _ _ _ hr
        obtain ⟨f1, f2, f3, f4, f5, f6, f7, f8⟩ := am_fp_i hf hc3
        obtain ⟨g1, g2, g3⟩ := t5 k hkn
        obtain ⟨g4, g5⟩ := f8 _ g1 ad
        have he : (am_ws ad ca h)[a]? = some (ad a, .inr (cn, (List.range (am_nf cn)).map fun j => am_cv ad (am_fv h cn j a))) := am_ws_at ha |>.trans (by rw [am_ce_obj hk])
        have hk' : (h'.2.1 a).1 = cn + 3 := by rw [f2]; exact hk
        have hset : (am_ws ad ca h).set a (ad a, .inr (cn, ((List.range (am_nf cn)).map fun j => am_cv ad (am_fv h cn j a)).set k (am_cv ad v))) = am_ws ad ca h' := by
          rw [am_fs_set f5 f6, ← am_ce_obj hk']
          exact am_ws_set f1 (fun z hz => f4 ad ca z hz)
        have hn1 : h'.1 ≤ 1000 := by rw [f1]; exact hB.2.2.2.1
        have hB' : (∀ k, k < n0 ∨ k = 1000 → ad k = ad0 k) ∧ (∀ k, k < n0 → ca k = ca0 k) ∧ n0 ≤ h'.1 ∧ h'.1 ≤ 1000 ∧ h'.2.1 1000 = l0 ∧ h'.2.2.1 1000 = x0 ∧ am_sh h' := by
          refine ⟨hB.1, hB.2.1, by rw [f1]; exact hB.2.2.1, hn1, by rw [f2]; exact hB.2.2.2.2.1, ?_, f7 hB.2.2.2.2.2.2⟩
          rw [f3 1000 (by have := hB.2.2.2.1; omega)]; exact hB.2.2.2.2.2.1
        have key : ∀ (H1 : Heap) (locs1 : List Loc), va_P D vwCl ((am_ws ad ca h).set a (ad a, .inr (cn, ((List.range (am_nf cn)).map fun j => am_cv ad (am_fv h cn j a)).set k (am_cv ad v)))) H1 → va_D A ((am_ws ad ca h).set a (ad a, .inr (cn, ((List.range (am_nf cn)).map fun j => am_cv ad (am_fv h cn j a)).set k (am_cv ad v)))) → va_S A s.heap H1 locs1 → W p l e R s m args below meth c H1 locs1 u.1 u.2 Qw (F0 m (pc + 3) la (r.map (am_cv ad))) := by
          intro H1 locs1 hP1 hD1 hS1
          rw [hset] at hP1 hD1
          exact ho ad ca la H1 locs1 ⟨hB', ⟨⟨hP1, hCC.2.1, fun z hz1 hz2 => by rw [f1] at hz1; rw [f2] at hz2 ⊢; exact hCC.2.2 z hz1 hz2⟩, hD1, hS1⟩, hu, ⟨by rw [f1]; exact hl.1, hl.2⟩, by rw [f1]; exact hst.t.t⟩
        by_cases hfin : am_ff cn k = true
        · obtain ⟨o1, o2⟩ := hc2 hfin
          exact va_putF (D := D) (ci := cn) (ty := ty0 k) hx hb hts t2 ty0 t3 t4 hown hCC.2.1 hCC.1 hD hS a he t1 k hkn (hts _ (t6 T _ t1)) (fun _ h9 => h9) (g2.trans hfin) (hini o2) (by rw [o1]; exact g3) (t3 k hkn) g4 g5 (by simpa using hkn) hd key
        · exact va_put (D := D) (ci := cn) (ty := ty0 k) hx hb hts t2 ty0 t3 t4 hown hCC.2.1 hCC.1 hD hS a he t1 k hkn (hts _ (t6 T _ t1)) (fun _ h9 => h9) (g2.trans (by simpa using hfin)) (t3 k hkn) g4 g5 (by simpa using hkn) hd key
  case iaload =>
    obtain ⟨a, i, r, rfl, hs⟩ := am_ai_i hs
    obtain ⟨rfl, rfl⟩ := am_Nc_e hs
    obtain ⟨hc1, hc2⟩ := hc
    rcases hc1 with hc1 | ⟨rfl, hj⟩
    · obtain ⟨ha, hk⟩ := am_ty_some hc1
      exact va_iald hx hb (hCC.arr hc1 (by omega)) hCC.1 a 0 (am_ws_at ha |>.trans (by rw [am_ce_0 hk])) rfl hc2 hd (ho ad ca la H locs ⟨hB, ⟨hCC, hD, hS⟩, hu, hl, hst.t.t.k trivial⟩)
    · obtain ⟨hX, hbl, hbA⟩ := hscr.1 hj
      rw [← hB.1 1000 (Or.inr rfl)] at hX hbl hbA
      have e1 : am_sz h 1000 = l0.2 := by rw [← hB.2.2.2.2.1]; rfl
      rw [e1] at hc2
      have ho := ho ad ca la H locs ⟨hB, ⟨hCC, hD, hS⟩, hu, hl, hst.t.t.k trivial⟩
      rw [hB.2.2.2.2.2.1] at ho
      exact va_sld hx hb hX hbl hbA hS hc2 hd ho
  case arraylength =>
    obtain ⟨a, r, rfl, hs⟩ := am_a1_i hs
    obtain ⟨rfl, rfl⟩ := am_Nc_e hs
    obtain ⟨rfl, hj⟩ := hc
    obtain ⟨hX, hbl, hbA⟩ := hscr.1 hj
    rw [← hB.1 1000 (Or.inr rfl)] at hX hbl hbA
    have e1 : am_sz h 1000 = l0.2 := by rw [← hB.2.2.2.2.1]; rfl
    have ho := ho ad ca la H locs ⟨hB, ⟨hCC, hD, hS⟩, hu, hl, hst.t.k trivial⟩
    rw [e1] at ho
    exact va_slen hx hb hX hbl hbA hS hd ho
  case baload =>
    obtain ⟨a, i, r, rfl, hs⟩ := am_ai_i hs
    obtain ⟨rfl, rfl⟩ := am_Nc_e hs
    obtain ⟨hc1, hc2⟩ := hc
    obtain ⟨ha, hk⟩ := am_ty_some hc1
    exact va_zald hx hb (hCC.arr hc1 (by omega)) hCC.1 a 0 (am_ws_at ha |>.trans (by rw [am_ce_1 hk])) rfl hc2 hd (ho ad ca la H locs ⟨hB, ⟨hCC, hD, hS⟩, hu, hl, hst.t.t.k trivial⟩)
  case laload =>
    obtain ⟨a, i, r, rfl, hs⟩ := am_ai_i hs
    obtain ⟨rfl, rfl⟩ := am_Nc_e hs
    obtain ⟨hc1, hc2⟩ := hc
    obtain ⟨ha, hk⟩ := am_ty_some hc1
    exact va_lald hx hb (hCC.arr hc1 (by omega)) hCC.1 a 0 (am_ws_at ha |>.trans (by rw [am_ce_2 hk])) rfl hc2 hd (ho ad ca la H locs ⟨hB, ⟨hCC, hD, hS⟩, hu, hl, hst.t.t.k trivial⟩)
  case iastore =>
    obtain ⟨a, i, x, r, rfl, hs⟩ := am_aii_i hs
    obtain ⟨rfl, rfl⟩ := am_Nc_e hs
    obtain ⟨hc1, hc2⟩ := hc
    obtain ⟨ha, hk⟩ := am_ty_some hc1
    have hset : (am_ws ad ca h).set a (ad a, .inl (ca a, am_sz h a, .inl (upd (h.2.2.1 a) i.toNatClampNeg x))) = am_ws ad ca (am_pi h a i.toNatClampNeg x) := by
      have e2 : am_ce ad ca (am_pi h a i.toNatClampNeg x) a = .inl (ca a, am_sz h a, .inl (upd (h.2.2.1 a) i.toNatClampNeg x)) := by
        rw [am_ce_0 (h := am_pi h a i.toNatClampNeg x) hk]
        simp only [am_pi, am_up_eq]
        rfl
      rw [← e2]
      exact am_ws_set rfl (fun z hz => am_ce_pi hz)
    refine va_iast hx hb (hCC.arr hc1 (by omega)) hCC.1 hD hS a 0 (am_ws_at ha |>.trans (by rw [am_ce_0 hk])) rfl hc2 hd (fun H1 locs1 hP1 hD1 hS1 => ?_)
    rw [hset] at hP1 hD1
    refine ho ad ca la H1 locs1 ⟨⟨hB.1, hB.2.1, hB.2.2.1, hB.2.2.2.1, hB.2.2.2.2.1, ?_, hB.2.2.2.2.2.2⟩, ⟨⟨hP1, hCC.2.1, hCC.2.2⟩, hD1, hS1⟩, hu, hl, hst.t.t.t⟩
    exact (am_up_ne (by have := hB.2.2.2.1; omega)).trans hB.2.2.2.2.2.1
  case bastore =>
    obtain ⟨a, i, x, r, rfl, hs⟩ := am_aii_i hs
    obtain ⟨rfl, rfl⟩ := am_Nc_e hs
    obtain ⟨hc1, hc2, hc3⟩ := hc
    obtain ⟨ha, hk⟩ := am_ty_some hc1
    have hset : (am_ws ad ca h).set a (ad a, .inl (ca a, am_sz h a, .inl (upd (h.2.2.1 a) i.toNatClampNeg x))) = am_ws ad ca (am_pi h a i.toNatClampNeg x) := by
      have e2 : am_ce ad ca (am_pi h a i.toNatClampNeg x) a = .inl (ca a, am_sz h a, .inl (upd (h.2.2.1 a) i.toNatClampNeg x)) := by
        rw [am_ce_1 (h := am_pi h a i.toNatClampNeg x) hk]
        simp only [am_pi, am_up_eq]
        rfl
      rw [← e2]
      exact am_ws_set rfl (fun z hz => am_ce_pi hz)
    refine va_zast hx hb (hCC.arr hc1 (by omega)) hCC.1 hD hS a 0 (am_ws_at ha |>.trans (by rw [am_ce_1 hk])) rfl hc2 hd (fun H1 locs1 hP1 hD1 hS1 => ?_)
    rw [show vp_nar .boolean x = x by rcases hc3 with rfl | rfl <;> rfl] at hP1 hD1
    rw [hset] at hP1 hD1
    refine ho ad ca la H1 locs1 ⟨⟨hB.1, hB.2.1, hB.2.2.1, hB.2.2.2.1, hB.2.2.2.2.1, ?_, hB.2.2.2.2.2.2⟩, ⟨⟨hP1, hCC.2.1, hCC.2.2⟩, hD1, hS1⟩, hu, hl, hst.t.t.t⟩
    exact (am_up_ne (by have := hB.2.2.2.1; omega)).trans hB.2.2.2.2.2.1
  case lastore =>
    obtain ⟨a, i, x, r, rfl, hs⟩ := am_ail_i hs
    obtain ⟨rfl, rfl⟩ := am_Nc_e hs
    obtain ⟨hc1, hc2⟩ := hc
    obtain ⟨ha, hk⟩ := am_ty_some hc1
    have hset : (am_ws ad ca h).set a (ad a, .inl (ca a, am_sz h a, .inr (.inl (vp_updL (h.2.2.2.1 a) i.toNatClampNeg x)))) = am_ws ad ca (am_pl h a i.toNatClampNeg x) := by
      have e2 : am_ce ad ca (am_pl h a i.toNatClampNeg x) a = .inl (ca a, am_sz h a, .inr (.inl (vp_updL (h.2.2.2.1 a) i.toNatClampNeg x))) := by
        rw [am_ce_2 (h := am_pl h a i.toNatClampNeg x) hk]
        simp only [am_pl, am_up_eq]
        rfl
      rw [← e2]
      exact am_ws_set rfl (fun z hz => am_ce_pl hz)
    refine va_last hx hb (hCC.arr hc1 (by omega)) hCC.1 hD hS a 0 (am_ws_at ha |>.trans (by rw [am_ce_2 hk])) rfl hc2 hd (fun H1 locs1 hP1 hD1 hS1 => ?_)
    rw [hset] at hP1 hD1
    refine ho ad ca la H1 locs1 ⟨⟨hB.1, hB.2.1, hB.2.2.1, hB.2.2.2.1, hB.2.2.2.2.1, ?_, hB.2.2.2.2.2.2⟩, ⟨⟨hP1, hCC.2.1, hCC.2.2⟩, hD1, hS1⟩, hu, hl, hst.t.t.t⟩
    exact hB.2.2.2.2.2.1
  all_goals exact (Bool.false_ne_true hok).elim
end AHP
end
section
/-! NEW CELLS -/
def am_NO (own x c : Nat) : Prop := am_CO c ∧ Cond.classLink (am_cn own) x (am_cn c) ∈ am_tbl ∧ Cond.instantiable (am_cn c) (am_nf c) ∈ am_tbl ∧ Cond.initialized (am_cn c) ∈ am_tbl
theorem am_fv_nw {h : am_H} {c n c' i k : Nat} (hk : k < h.1) : am_fv (am_nw h c n) c' i k = am_fv h c' i k := by
  have hk' : ¬ k = h.1 := by omega
  simp only [am_fv, am_nw, if_neg hk']
theorem am_ce_nw {ad : Nat → Nat} {ca : Nat → ClassId} {h : am_H} {c n k q : Nat} {cA : ClassId} (hh : am_sh h) (h1 : h.1 < 1000) (hk : k < h.1) : am_ce (va_up ad h.1 q) (va_up ca h.1 cA) (am_nw h c n) k = am_ce ad ca h k := by
  have hk' : ¬ k = h.1 := by omega
  have e1 : (am_nw h c n).2.1 k = h.2.1 k := if_neg hk'
  have e2 : (am_nw h c n).2.2.1 k = h.2.2.1 k := funext fun _ => if_neg hk'
  have e3 : (am_nw h c n).2.2.2.1 k = h.2.2.2.1 k := funext fun _ => if_neg hk'
  have e4 : va_up ca h.1 cA k = ca k := if_neg hk'
  unfold am_ce
  rw [e1, e2, e3, e4]
  split
  · rfl
  · rfl
  · rfl
  · refine congrArg Sum.inr (congrArg (Prod.mk _) (List.map_congr_left fun i _ => ?_))
    rw [am_fv_nw hk]
    refine am_cv_ext (n := h.1) (fun z hz => if_neg ?_) (am_sv_fv hh hk)
    omega
theorem am_ws_nw {ad : Nat → Nat} {ca : Nat → ClassId} {h : am_H} {c n q : Nat} {cA : ClassId} (hh : am_sh h) (h1 : h.1 < 1000) : am_ws ad ca h ++ [(q, am_ce (va_up ad h.1 q) (va_up ca h.1 cA) (am_nw h c n) h.1)] = am_ws (va_up ad h.1 q) (va_up ca h.1 cA) (am_nw h c n) := by
  show _ = (List.range (h.1 + 1)).map _
  rw [List.range_succ, List.map_append]
  congr 1
  · refine List.map_congr_left fun k hk => ?_
    have hk := List.mem_range.mp hk
    rw [am_ce_nw hh h1 hk]
    congr 1
    exact (if_neg (by omega)).symm
  · show [_] = [_]
    congr 2
    exact (if_pos rfl).symm
theorem am_sh_nw {h : am_H} {c n : Nat} (hh : am_sh h) : am_sh (am_nw h c n) := by
  intro k i hk
  show (if k = h.1 then 0 else h.2.2.2.2 k i) ≤ h.1 + 1
  split
  · omega
  · have hk : k < h.1 + 1 := hk
    have := hh k i (by omega)
    omega
theorem am_fv_n0 {h : am_H} {c n c' i : Nat} (ad : Nat → Nat) : am_cv ad (am_fv (am_nw h c n) c' i h.1) = am_fv (am_nw h c n) c' i h.1 := by
  simp only [am_fv, am_nw, if_true]
  split <;> rfl
def am_dv (f : Nat) : Value := match f with
  | 0 => .int 0
  | 1 => .int 0
  | 2 => .long 0
  | _ => .null
theorem am_default {ty : FieldType} {f : Nat} (g : am_fto ty f = true) : defaultValue ty = am_dv f := by
  unfold am_fto at g
  split at g <;> first | rfl | cases g
theorem am_fv_nn {h : am_H} {c n c' i : Nat} : am_fv (am_nw h c n) c' i h.1 = am_dv (am_ft c' i) := by
  simp only [am_fv, am_nw, if_true, am_dv]
  split <;> first | rfl | (simp_all <;> rfl)
section ANW
variable {p : Program} {l : Launch} {e : Env} {R : Room} {s : State} {m : MethodId} {args : Array Value} {below : List Frame} {meth : Method} {c : Code} {Qw : State → Prop} {D : va_G} {A : Nat → Prop} {j n0 : Nat} {ad0 : Nat → Nat} {ca0 : Nat → ClassId} {l0 : Nat × Nat} {x0 : Nat → Int32}
theorem am_nwB {h : am_H} {ad : Nat → Nat} {ca : Nat → ClassId} {cc n q : Nat} {cA : ClassId} (h1 : h.1 < 1000)
    (hB : (∀ k, k < n0 ∨ k = 1000 → ad k = ad0 k) ∧ (∀ k, k < n0 → ca k = ca0 k) ∧ n0 ≤ h.1 ∧ h.1 ≤ 1000 ∧ h.2.1 1000 = l0 ∧ h.2.2.1 1000 = x0 ∧ am_sh h) :
    (∀ k, k < n0 ∨ k = 1000 → va_up ad h.1 q k = ad0 k) ∧ (∀ k, k < n0 → va_up ca h.1 cA k = ca0 k) ∧ n0 ≤ (am_nw h cc n).1 ∧ (am_nw h cc n).1 ≤ 1000 ∧ (am_nw h cc n).2.1 1000 = l0 ∧ (am_nw h cc n).2.2.1 1000 = x0 ∧ am_sh (am_nw h cc n) := by
  obtain ⟨b1, b2, b3, b4, b5, b6, b7⟩ := hB
  refine ⟨fun k hk => ?_, fun k hk => ?_, Nat.le_succ_of_le b3, h1, ?_, ?_, am_sh_nw b7⟩
  · rw [← b1 k hk]; exact if_neg (by omega)
  · rw [← b2 k hk]; exact if_neg (by omega)
  · rw [← b5]; exact if_neg (by omega)
  · rw [← b6]; exact funext fun _ => if_neg (by omega)
theorem am_nwY {h : am_H} {ad : Nat → Nat} {ca : Nat → ClassId} {la : Array Slot} {H : Heap} {locs : List Loc} {ls : am_L} {st st' : List Value} {u u' : am_U} (h1 : h.1 < 1000) (hin : am_In s D A j n0 ad0 ca0 l0 x0 ad ca la H locs ls st h u) {cc n qa : Nat} {cA : ClassId} {H1 : Heap} (hu' : u'.1 ≤ am_mc j ∧ u'.2 ≤ am_ms j) (hst' : am_ss h.1 st')
    (hP1 : va_P D vwCl (am_ws (va_up ad h.1 qa) (va_up ca h.1 cA) (am_nw h cc n)) H1) (hD1 : va_D A (am_ws (va_up ad h.1 qa) (va_up ca h.1 cA) (am_nw h cc n))) (hS1 : va_S A s.heap H1 locs) (hAr : cc < 3 → ArrOfT s cA (am_at cc) ∧ va_RA s cA (am_at cc)) {pc : Nat} (ho : am_Y p l e R s m args below meth c Qw D A j n0 ad0 ca0 l0 x0 pc ls (.ref h.1 :: st') (am_nw h cc n) u') :
    W p l e R s m args below meth c H1 locs u'.1 u'.2 Qw (F0 m pc la (.ref qa :: st'.map (am_cv ad))) := by
  obtain ⟨hB, ⟨hCC, hD, hS⟩, hu, hl, hst⟩ := hin
  have hex : ∀ k, k < h.1 ∨ k = 1000 → va_up ad h.1 qa k = ad k := fun k hk => if_neg (by omega)
  have hle : h.1 ≤ (am_nw h cc n).1 := Nat.le_succ _
  have e1 : (Value.ref h.1 :: st').map (am_cv (va_up ad h.1 qa)) = .ref qa :: st'.map (am_cv ad) := by
    rw [List.map_cons, am_cvs_ext hex hst']
    congr 1
    exact congrArg Value.ref (if_pos rfl)
  have := ho (va_up ad h.1 qa) (va_up ca h.1 cA) la H1 locs ⟨am_nwB h1 hB, ⟨⟨hP1, hCC.2.1, fun k hk hk2 => ?_⟩, hD1, hS1⟩, hu', ⟨fun i v hv => am_sv_up hle (hl.1 i v hv), am_lo_ext hex hl.1 hl.2⟩, (am_ss_up hle hst').k (Or.inl (Nat.lt_succ_self _))⟩
  · rw [e1] at this
    exact this
  · have hk : k < h.1 + 1 := hk
    by_cases hz : k = h.1
    · have e2 : (am_nw h cc n).2.1 k = (cc, n) := if_pos hz
      have e3 : va_up ca h.1 cA k = cA := if_pos hz
      rw [e2] at hk2 ⊢
      rw [e3]
      exact hAr hk2
    · have e2 : (am_nw h cc n).2.1 k = h.2.1 k := if_neg hz
      have e3 : va_up ca h.1 cA k = ca k := if_neg hz
      rw [e2] at hk2 ⊢
      rw [e3]
      exact hCC.2.2 k (by omega) hk2
theorem am_stN (hN : ∀ own x c, am_rn own x = some c → am_NO own x c) (hAr : ∀ t, t < 3 → Cond.arrayClass (am_at t) ∈ am_tbl) (hcn : (am_y j).cls = am_cn (am_ow j)) (cx : am_Cx p s m args meth c R A j ad0 l0 x0) {i : Jvm.ClassFile.Instr} {pc : Nat} {ls : am_L} {st : List Value} {h : am_H} {u : am_U} {q : Prop} {S : am_S} (hd : decode (am_by j) pc = .ok (i, am_lp i pc)) (hok : am_okN i = true) (hs : am_sem j i pc ls st h u = some (q, .inl S)) (hc : q) (ho : am_Y p l e R s m args below meth c Qw D A j n0 ad0 ca0 l0 x0 (pc + am_len i) S.1 S.2.1 S.2.2.1 S.2.2.2) : am_Y p l e R s m args below meth c Qw D A j n0 ad0 ca0 l0 x0 pc ls st h u := by
  obtain ⟨hx, hb, hml, hown, hts, hini, hA, ⟨hRc, hRs, hRf, hRl⟩, hscr⟩ := cx
  rw [hcn] at hown
  intro ad ca la H locs hin
  have hin' := hin
  obtain ⟨hB, ⟨hCC, hD, hS⟩, hu, hl, hst⟩ := hin
  have hh := hB.2.2.2.2.2.2
  cases i
  case new x =>
    simp only [am_sem] at hs
    cases hr : am_rn (am_ow j) x with
    | none => rw [hr] at hs; cases hs
    | some cn =>
      rw [hr] at hs
      obtain ⟨rfl, rfl⟩ := am_Nc_e hs
      obtain ⟨hc0, hc1, hc2⟩ := hc
      obtain ⟨⟨T, ty0, t1, t2, t3, t4, t5⟩, t6, t7, t8⟩ := hN _ _ _ hr
      have hob : ((am_nw h (cn + 3) 0).2.1 h.1).1 = cn + 3 := congrArg Prod.fst (if_pos rfl)
      refine va_new (D := D) (ci := cn) (fs := (List.range (am_nf cn)).map fun i => am_fv (am_nw h (cn + 3) 0) cn i h.1) hx hb hts t2 ty0 t3 hown (hts _ t6) (hts _ t7) (hts _ t8) hCC.2.1 hCC.1 hD hS hA t1 (fun i hi => ?_) (Nat.le_trans hc1 hRc) (Nat.le_trans hc2 hRs) hd (fun qa H1 hP1 hD1 hS1 => ?_)
      · rw [am_default (t5 i hi).1]
        simp [vp_V, hi, am_fv_nn]
      · have hcells : (.inr (cn, (List.range (am_nf cn)).map fun i => am_fv (am_nw h (cn + 3) 0) cn i h.1) : va_E) = am_ce (va_up ad h.1 qa) (va_up ca h.1 (ca h.1)) (am_nw h (cn + 3) 0) h.1 := by
          rw [am_ce_obj hob]
          exact congrArg Sum.inr (congrArg (Prod.mk _) (List.map_congr_left fun i _ => (am_fv_n0 _).symm))
        rw [hcells, am_ws_nw hh hc0] at hP1 hD1
        exact am_nwY hc0 hin' ⟨hc1, hc2⟩ hst hP1 hD1 hS1 (fun hz => absurd hz (by omega)) ho
  case newarray t =>
    simp only [am_sem] at hs
    cases hr : am_atc t with
    | none => rw [hr] at hs; cases hs
    | some cn =>
      rw [hr] at hs
      cases t
      · cases hr
        obtain ⟨x, r, rfl, hs⟩ := am_o1_i hs
        obtain ⟨rfl, rfl⟩ := am_Nc_e hs
        obtain ⟨hc1, hc2, hc0, hc3, hc4⟩ := hc
        refine va_newa (D := D) (atype := .boolean) (ty := .boolean) hx hb (hts _ (hAr 1 (by omega))) rfl hCC.2.1 hCC.1 hD hS hA (n := x) (N' := x.toNatClampNeg) (a0 := (x.toNatClampNeg, .inl (fun _ => 0))) (fun _ => rfl) hc1 rfl (by show x.toNatClampNeg * 1 ≤ 536870912; omega) (Nat.le_trans hc3 hRc) (Nat.le_trans hc4 hRs) hd (fun qa cA H1 hK1 hP1 hD1 hS1 => ?_)
        have e1 : (.inl (cA, x.toNatClampNeg, .inl (fun _ => 0)) : va_E) = am_ce (va_up ad h.1 qa) (va_up ca h.1 cA) (am_nw h 1 x.toNatClampNeg) h.1 := by
          simp [am_ce, am_nw, va_up]
        rw [e1, am_ws_nw hh hc0] at hP1 hD1
        exact am_nwY hc0 hin' ⟨hc3, hc4⟩ hst.t hP1 hD1 hS1 (fun _ => hK1.2 0 _ rfl) ho
      · cases hr
      · cases hr
      · cases hr
      · cases hr
      · cases hr
      · cases hr
        obtain ⟨x, r, rfl, hs⟩ := am_o1_i hs
        obtain ⟨rfl, rfl⟩ := am_Nc_e hs
        obtain ⟨hc1, hc2, hc0, hc3, hc4⟩ := hc
        refine va_newa (D := D) (atype := .int) (ty := .int) hx hb (hts _ (hAr 0 (by omega))) rfl hCC.2.1 hCC.1 hD hS hA (n := x) (N' := x.toNatClampNeg) (a0 := (x.toNatClampNeg, .inl (fun _ => 0))) (fun _ => rfl) hc1 rfl (by show x.toNatClampNeg * 4 ≤ 536870912; omega) (Nat.le_trans hc3 hRc) (Nat.le_trans hc4 hRs) hd (fun qa cA H1 hK1 hP1 hD1 hS1 => ?_)
        have e1 : (.inl (cA, x.toNatClampNeg, .inl (fun _ => 0)) : va_E) = am_ce (va_up ad h.1 qa) (va_up ca h.1 cA) (am_nw h 0 x.toNatClampNeg) h.1 := by
          simp [am_ce, am_nw, va_up]
        rw [e1, am_ws_nw hh hc0] at hP1 hD1
        exact am_nwY hc0 hin' ⟨hc3, hc4⟩ hst.t hP1 hD1 hS1 (fun _ => hK1.2 0 _ rfl) ho
      · cases hr
        obtain ⟨x, r, rfl, hs⟩ := am_o1_i hs
        obtain ⟨rfl, rfl⟩ := am_Nc_e hs
        obtain ⟨hc1, hc2, hc0, hc3, hc4⟩ := hc
        refine va_newa (D := D) (atype := .long) (ty := .long) hx hb (hts _ (hAr 2 (by omega))) rfl hCC.2.1 hCC.1 hD hS hA (n := x) (N' := x.toNatClampNeg) (a0 := (x.toNatClampNeg, .inr (.inl (fun _ => 0)))) (fun _ => rfl) hc1 rfl (by show x.toNatClampNeg * 8 ≤ 536870912; omega) (Nat.le_trans hc3 hRc) (Nat.le_trans hc4 hRs) hd (fun qa cA H1 hK1 hP1 hD1 hS1 => ?_)
        have e1 : (.inl (cA, x.toNatClampNeg, .inr (.inl (fun _ => 0))) : va_E) = am_ce (va_up ad h.1 qa) (va_up ca h.1 cA) (am_nw h 2 x.toNatClampNeg) h.1 := by
          simp [am_ce, am_nw, va_up]
        rw [e1, am_ws_nw hh hc0] at hP1 hD1
        exact am_nwY hc0 hin' ⟨hc3, hc4⟩ hst.t hP1 hD1 hS1 (fun _ => hK1.2 0 _ rfl) ho
  all_goals exact (Bool.false_ne_true hok).elim
end ANW
end
section
/-! CALLS -/
def am_wj (k : Nat) : List Cond := Cond.code (am_y k) (am_by k) (am_mL k) (am_ret k) :: am_tbl
def am_room (k : Nat) : Room := { frames := am_fr k, cells := am_mc k, slots := am_ms k, locals := am_lr k }
/-- a method as the tables have it -/
def am_LK (k : Nat) : Prop := Cond.code (am_y k) (am_by k) (am_mL k) (am_ret k) ∈ am_tbl ∧ Cond.initialized (am_y k).cls ∈ am_tbl ∧ ((am_y k).cls ≠ "java/lang/invoke/MethodHandle" ∧ (am_y k).cls ≠ "java/lang/invoke/VarHandle") ∧ plainName (am_y k).cls = true ∧ (am_y k).cls = am_cn (am_ow k)
def am_RO (j k : Nat) : Prop := am_fr k + 1 ≤ am_fr j ∧ 8 + (am_mL k + 11) + am_lr k ≤ am_lr j
def am_pn (k n : Nat) : Prop := (parseMethodDescriptor (am_y k).desc).map (fun d => d.parameters.length) = some n
def am_LS (own x k : Nat) : Prop := am_LK k ∧ Cond.methodLink (am_cn own) x (am_y k) ∈ am_tbl ∧ Cond.static (am_y k) ∈ am_tbl ∧ am_pn k (am_na k)
def am_LV (own x k : Nat) : Prop := am_LK k ∧ am_CO (am_ow k) ∧ am_st k = false ∧ Cond.methodLink (am_cn own) x (am_y k) ∈ am_tbl ∧ Cond.instanceMethod (am_y k) ∈ am_tbl ∧ Cond.selects (am_y k).cls (am_y k) (am_y k) ∈ am_tbl ∧ ∃ n, am_na k = n + 1 ∧ am_pn k n
def am_LI (own x k : Nat) : Prop := am_LK k ∧ am_st k = false ∧ (Cond.methodLink (am_cn own) x (am_y k) ∈ am_tbl ∨ ∃ host, (am_cn own, x, am_y k, host) ∈ am_nst) ∧ Cond.instanceMethod (am_y k) ∈ am_tbl ∧ (am_y k).name = "<init>" ∧ am_ret k = none ∧ ∃ n, am_na k = n + 1 ∧ am_pn k n
theorem am_good {args : Array Value} {s : State} (hts : ∀ w ∈ am_tbl, w.before args s = true) : ∀ w ∈ am_tbl, ∀ (a' : Array Value) (U : State), s.WarmedH U.vm → w.before a' U = true :=
  fun w hw _ _ hW => word_at hW (good_of_word (List.mem_filter.mp hw).2) (hts w hw)
theorem am_goodj {args : Array Value} {s : State} {k : Nat} (hk : am_LK k) (hts : ∀ w ∈ am_tbl, w.before args s = true) : ∀ w ∈ am_wj k, ∀ (a' : Array Value) (U : State), s.WarmedH U.vm → w.before a' U = true := fun w hw => by
  rcases List.mem_cons.mp hw with rfl | hw
  · exact am_good hts _ hk.1
  · exact am_good hts w hw
/-- what a method's contract says at its end -/
def am_Qm (D : va_G) (ad0 : Nat → Nat) (ca0 : Nat → ClassId) (h0 : am_H) (Z : Option Value → am_H → Prop) (A : Nat → Prop) : Array Value → State → Outcome → State → Prop := fun _ st oc t =>
  (∃ (v : Option Value) (h : am_H) (ad : Nat → Nat) (ca : Nat → ClassId), oc = .returned (v.map (am_cv ad)) ∧ Z v h ∧ ((∀ k, k < h0.1 ∨ k = 1000 → ad k = ad0 k) ∧ (∀ k, k < h0.1 → ca k = ca0 k) ∧ h0.1 ≤ h.1 ∧ h.1 ≤ 1000 ∧ h.2.1 1000 = h0.2.1 1000 ∧ h.2.2.1 1000 = h0.2.2.1 1000 ∧ am_sh h) ∧ (∀ x, v = some x → am_sv h.1 x) ∧ am_cc D t ad ca h t.heap ∧ va_D A (am_ws ad ca h)) ∧ va_F A st t
/-- a method's contract out of the abstract machine's -/
def am_MM (l : Launch) (D : va_G) (k : Nat) (as : List Value) (h : am_H) (Z : Option Value → am_H → Prop) : Prop := ∀ (sz : Nat) (ad : Nat → Nat) (ca : Nat → ClassId), am_ss h.1 as → am_sh h → h.1 ≤ 1000 →
  Met l (am_y k) (am_wj k) (am_room k) (va_Pc (as.map (am_cv ad)) (fun U => U.heap.size = sz ∧ am_cc D U ad ca h U.heap ∧ va_D (fun _ => True) (am_ws ad ca h) ∧ am_NS U)) (am_Qm D ad ca h Z (va_A (am_ws ad ca h) sz)) (am_mc k) (am_ms k) (va_A (am_ws ad ca h) sz)
theorem am_blind {D : va_G} {av : List Value} {sz : Nat} {ad : Nat → Nat} {ca : Nat → ClassId} {h : am_H} : FrameBlind (va_Pc av (fun U => U.heap.size = sz ∧ am_cc D U ad ca h U.heap ∧ va_D (fun _ => True) (am_ws ad ca h) ∧ am_NS U)) := fun a U g mk q => by
  obtain ⟨q0, q1, qC, qD, qN⟩ := q
  exact ⟨q0, q1, qC.moved (u := U) (U := U.calling g mk a) (Vm.Alike.refl U.vm), qD, qN.same rfl⟩
section ACL
variable {p : Program} {l : Launch} {e : Env} {R : Room} {s : State} {m : MethodId} {args : Array Value} {below : List Frame} {meth : Method} {c : Code} {Qw : State → Prop} {D : va_G} {A : Nat → Prop} {j n0 : Nat} {ad0 : Nat → Nat} {ca0 : Nat → ClassId} {l0 : Nat × Nat} {x0 : Nat → Int32}
theorem am_callG {H : Heap} {locs : List Loc} {cells slots mc ms pc : Nat} {la : Array Slot} {st0 rest : List Value} {Qa : State → Outcome → State → Prop} {free : Addr → Prop} {A1 : Nat → Prop} (hr : va_Run p l e R s m args below meth c H locs cells slots mc ms (F0 m pc la st0) rest Qa free) (hS : va_S A s.heap H locs) (hA : ∀ q, q < H.size → A1 q → A q) (hf : ∀ q, free q → A q) (hQ : ∀ st oc t, Qa st oc t → va_F A1 st t)
    (kk : ∀ (v : Option Value) (st₀ t : State) (H1 : Heap) (locs1 : List Loc), t.heap = H1 → s.vm.Alike t.vm → Qa st₀ (.returned v) t → va_S A s.heap H1 locs1 → W p l e R s m args below meth c H1 locs1 (cells + mc) (slots + ms) Qw (F0 m (pc + 3) la (v.toList ++ rest))) : W p l e R s m args below meth c H locs cells slots Qw (F0 m pc la st0) := by
  intro T hT X
  obtain ⟨v, st₀, t, T', L, h0, X', hL, e1, e2, hq, st⟩ := hr T hT X
  obtain ⟨hz, hk⟩ := hQ _ _ _ hq
  rw [h0] at hz hk
  obtain ⟨t2, a1, b1⟩ := kk v st₀ t T'.heap (locs ++ L) e1.symm (by rw [← e2]; exact X'.warmed.alike) hq
    ⟨Nat.le_trans hS.1 (by rw [e1]; exact hz), fun q h1 h2 => by rw [e1, hk q (Nat.lt_of_lt_of_le h1 hS.1) (fun z => h2 (hA q (Nat.lt_of_lt_of_le h1 hS.1) z))]; exact hS.2.1 q h1 h2, fun q hq => by
      rcases List.mem_append.mp hq with h | h
      · exact hS.2.2 q h
      · exact hf _ (hL q h)⟩ T' rfl X'
  exact ⟨t2, st t2 a1, b1⟩
/-- behind a call -/
theorem am_after {k pc : Nat} {ls : am_L} {st rest : List Value} {h : am_H} {u : am_U} {ad : Nat → Nat} {ca : Nat → ClassId} {la : Array Slot} {H : Heap} {locs : List Loc} {aa : Array Value} {stc : List Value} (hA : ∀ q, s.heap.size ≤ q → A q) (hin : am_In s D A j n0 ad0 ca0 l0 x0 ad ca la H locs ls st h u) (hrs : am_ss h.1 rest) (hu1 : u.1 + am_mc k ≤ am_mc j) (hu2 : u.2 + am_ms k ≤ am_ms j)
    (hr : va_Run p l e R s m args below meth c H locs u.1 u.2 (am_mc k) (am_ms k) (F0 m pc la stc) (rest.map (am_cv ad)) (am_Qm D ad ca h (fun v h' => am_Y p l e R s m args below meth c Qw D A j n0 ad0 ca0 l0 x0 (pc + 3) ls (v.toList ++ rest) h' (u.1 + am_mc k, u.2 + am_ms k)) (va_A (am_ws ad ca h) H.size) aa) (va_A (am_ws ad ca h) H.size)) :
    W p l e R s m args below meth c H locs u.1 u.2 Qw (F0 m pc la stc) := by
  obtain ⟨hB, ⟨hCC, hD, hS⟩, hu, hl, hst⟩ := hin
  have hAA : ∀ q, va_A (am_ws ad ca h) H.size q → A q := by
    rintro q (⟨i, w, hi⟩ | hq)
    · exact hD.2 i _ hi
    · exact hA q (Nat.le_trans hS.1 hq)
  refine am_callG hr hS (fun q _ hq => hAA q hq) hAA (fun st oc t hq => hq.2) (fun v st₀ t H1 locs1 ht hvm hq hS1 => ?_)
  obtain ⟨⟨v', h', ad', ca', ev, hZ, ⟨g1, g2, g3, g4, g5, g6, g7⟩, hv, hC', hD'⟩, -⟩ := hq
  have ev : v = v'.map (am_cv ad') := by injection ev
  have hle := g3
  have e1 : v.toList ++ rest.map (am_cv ad) = (v'.toList ++ rest).map (am_cv ad') := by
    rw [List.map_append, am_cvs_ext g1 hrs, ev]
    cases v' <;> rfl
  rw [e1]
  rw [ht] at hC'
  refine hZ ad' ca' la H1 locs1 ⟨⟨fun z hz => ?_, fun z hz => ?_, Nat.le_trans hB.2.2.1 g3, g4, g5.trans hB.2.2.2.2.1, g6.trans hB.2.2.2.2.2.1, g7⟩, ⟨hC'.moved hvm.symm, hD'.weaken (fun i q _ hq => hAA q.1 hq), hS1⟩, ⟨hu1, hu2⟩, ⟨fun i w hw => am_sv_up hle (hl.1 i w hw), am_lo_ext g1 hl.1 hl.2⟩, ?_⟩
  · rw [g1 z (by have := hB.2.2.1; omega)]; exact hB.1 z hz
  · rw [g2 z (by have := hB.2.2.1; omega)]; exact hB.2.1 z hz
  · intro w hw
    rcases List.mem_append.mp hw with hw | hw
    · cases v' with
      | none => cases hw
      | some y => rw [List.mem_singleton.mp hw]; exact hv y rfl
    · exact am_sv_up hle (hrs w hw)
theorem am_cal_e {k0 k : Nat} {as : List Value} {ls : am_L} {st : List Value} {h : am_H} {u : am_U} {q : Prop} {S : am_S} (hs : am_cal j k0 ls st h u = some (q, .inr (.inr (.inl (k, as, S))))) : q = (am_na k0 ≤ st.length ∧ ((st.drop (am_na k0)).map fun v => v.category).sum ≤ 8 ∧ am_rc h k0 (st.take (am_na k0)).reverse ∧ u.1 + am_mc k0 ≤ am_mc j ∧ u.2 + am_ms k0 ≤ am_ms j) ∧ k = k0 ∧ as = (st.take (am_na k0)).reverse ∧ S = (ls, st.drop (am_na k0), h, u.1 + am_mc k0, u.2 + am_ms k0) := by
  simp only [am_cal, Option.some.injEq, Prod.mk.injEq, Sum.inr.injEq, Sum.inl.injEq] at hs
  obtain ⟨h1, h2, h3, h4⟩ := hs
  exact ⟨h1.symm, h2.symm, h3.symm, h4.symm⟩
theorem am_nocall {q : Prop} {k : Nat} {as : List Value} {S : am_S} {z : Prop × am_O} {w : Prop} {ls : am_L} {st : List Value} {h : am_H} {u : am_U} (e1 : am_Nc w ls st h u = some z) (e2 : z = (q, .inr (.inr (.inl (k, as, S))))) : False := by
  subst e2
  simp [am_Nc] at e1
theorem am_st_split {n : Nat} {st as : List Value} (e : as = (st.take n).reverse) : st = as.reverse ++ st.drop n := by
  rw [e, List.reverse_reverse, List.take_append_drop]
theorem am_stC (hS0 : ∀ own x k, am_rm own x = (0, k) → k ≠ am_lst → am_LS own x k) (hV : ∀ own x k, am_rm own x = (6, k) → am_LV own x k) (hI : ∀ own x k, am_rm own x = (7, k) → am_LI own x k) (hcn : (am_y j).cls = am_cn (am_ow j)) (cx : am_Cx p s m args meth c R A j ad0 l0 x0) {i : Jvm.ClassFile.Instr} {pc : Nat} {ls : am_L} {st : List Value} {h : am_H} {u : am_U} {q : Prop} {k : Nat} {as : List Value} {S : am_S} (hkl : k ≠ am_lst) (hro : am_RO j k) (hd : decode (am_by j) pc = .ok (i, am_lp i pc)) (hs : am_sem j i pc ls st h u = some (q, .inr (.inr (.inl (k, as, S))))) (hok : am_okC i = true) (hc : q)
    (ho : am_MM l D k as S.2.2.1 (fun v h' => am_Y p l e R s m args below meth c Qw D A j n0 ad0 ca0 l0 x0 (pc + 3) S.1 (v.toList ++ S.2.1) h' S.2.2.2)) : am_Y p l e R s m args below meth c Qw D A j n0 ad0 ca0 l0 x0 pc ls st h u := by
  obtain ⟨hx, hb, hml, hown, hts, hini, hA, ⟨hRc, hRs, hRf, hRl⟩, hscr⟩ := cx
  rw [hcn] at hown
  have hfr : am_fr k + 1 ≤ R.frames := Nat.le_trans hro.1 hRf
  have hlo : 8 + (am_mL k + 11) + am_lr k ≤ R.locals := Nat.le_trans hro.2 hRl
  intro ad ca la H locs hin
  have hin' := hin
  obtain ⟨hB, ⟨hCC, hD, hS⟩, hu, hl, hst⟩ := hin
  cases i
  case invokestatic x =>
    simp only [am_sem, am_ivs] at hs
    cases hr : am_rm (am_ow j) x with
    | mk kd k0 =>
      rw [hr] at hs
      dsimp only at hs
      split at hs
      · obtain ⟨rfl, rfl, has, rfl⟩ := am_cal_e hs
        obtain ⟨hc1, hc2, hc3, hc4, hc5⟩ := hc
        obtain ⟨lk, f1, f2, f3⟩ := hS0 _ _ _ hr hkl
        have hsp := am_st_split has
        have hss : am_ss h.1 as := fun w hw => hst w (by rw [hsp]; exact List.mem_append_left _ (List.mem_reverse.mpr hw))
        have hrs : am_ss h.1 (st.drop (am_na k)) := fun w hw => hst w (List.mem_of_mem_drop hw)
        have hlen : as.length = am_na k := by rw [has]; simp; omega
        refine am_after hA hin' hrs hc4 hc5 (aa := (as.map (am_cv ad)).toArray) (va_runS (As := as.map (am_cv ad)) (n := am_na k) ⟨hx, hb, hml, hown, hts⟩ (ho H.size ad ca hss hB.2.2.2.2.2.2 hB.2.2.2.1) ⟨⟨rfl, rfl, hfr, hlo, am_goodj lk hts, List.mem_cons_self, hts _ lk.1, hts _ lk.2.1, lk.2.2.1, fun sig hsig => ?_, hts _ f1⟩, hts _ f2⟩ ⟨am_blind, fun U hU hW => ⟨rfl, by rw [hU], by rw [hU]; exact hCC.moved hW.alike, hD.weaken (fun _ _ _ _ => trivial), hscr.2.warm hW⟩⟩ rfl (by rw [List.length_map]; exact hlen) hl.2.1 ?_ (lv_room (by rw [am_cat_map]; exact hc2)) hd ⟨Nat.le_trans hc4 hRc, Nat.le_trans hc5 hRs⟩)
        · have f3 : _ = _ := f3
          rw [hsig] at f3
          exact (Option.some.inj f3).symm
        · show st.map (am_cv ad) = _
          conv => lhs; rw [hsp]
          rw [List.map_append, List.map_reverse]
      · obtain ⟨x, r, -, hs2⟩ := am_o1_i hs; exact (am_nocall hs2 rfl).elim
      · obtain ⟨x, r, -, hs2⟩ := am_l1_i hs; exact (am_nocall hs2 rfl).elim
      · obtain ⟨x, y, r, -, hs2⟩ := am_l2_i hs; exact (am_nocall hs2 rfl).elim
      · obtain ⟨x, y, r, -, hs2⟩ := am_l2_i hs; exact (am_nocall hs2 rfl).elim
      · cases hs
  case invokevirtual x =>
    simp only [am_sem, am_ivv] at hs
    cases hr : am_rm (am_ow j) x with
    | mk kd k0 =>
      rw [hr] at hs
      dsimp only at hs
      split at hs
      · obtain ⟨rfl, rfl, has, rfl⟩ := am_cal_e hs
        obtain ⟨hc1, hc2, hc3, hc4, hc5⟩ := hc
        obtain ⟨lk, ⟨T, ty0, t1, -⟩, hst0, f1, f2, f4, n, hn, f3⟩ := hV _ _ _ hr
        obtain ⟨a, as', eas, hty⟩ : ∃ a as', as = .ref a :: as' ∧ am_ty h a = some (am_ow k + 3) := by
          rw [← has] at hc3
          unfold am_rc at hc3
          split at hc3
          · exact ⟨_, _, rfl, hc3.resolve_left (by rw [hst0]; decide)⟩
          · rw [hst0] at hc3; cases hc3
        obtain ⟨ha, hka⟩ := am_ty_some hty
        have hsp := am_st_split has
        have hss : am_ss h.1 as := fun w hw => hst w (by rw [hsp]; exact List.mem_append_left _ (List.mem_reverse.mpr hw))
        have hrs : am_ss h.1 (st.drop (am_na k)) := fun w hw => hst w (List.mem_of_mem_drop hw)
        have hlen : as.length = am_na k := by rw [has]; simp; omega
        have hM := ho H.size ad ca hss hB.2.2.2.2.2.2 hB.2.2.2.1
        rw [eas] at hM hlen
        refine am_after hA hin' hrs hc4 hc5 (aa := (Value.ref (ad a) :: as'.map (am_cv ad)).toArray) (va_runV (As := as'.map (am_cv ad)) (b := ad a) (C := (am_y k).cls) (n := n) ⟨hx, hb, hml, hown, hts⟩ hM ⟨⟨rfl, rfl, hfr, hlo, am_goodj lk hts, List.mem_cons_self, hts _ lk.1, hts _ lk.2.1, lk.2.2.1, fun sig hsig => ?_, hts _ f1⟩, hts _ f2, hts _ f4⟩ ⟨am_blind, ?_, fun U hU hW => ⟨rfl, by rw [hU], by rw [hU]; exact hCC.moved hW.alike, hD.weaken (fun _ _ _ _ => trivial), hscr.2.warm hW⟩⟩ rfl (by rw [List.length_map]; rw [hn] at hlen; exact Nat.succ.inj hlen) hl.2.1 ?_ (lv_room (by rw [am_cat_map]; exact hc2)) hd ⟨Nat.le_trans hc4 hRc, Nat.le_trans hc5 hRs⟩)
        · have f3 : _ = _ := f3
          rw [hsig] at f3
          exact (Option.some.inj f3).symm
        · rw [lk.2.2.2.2]
          exact va_recv (ci := am_ow k) (q0 := a) hCC.2.1 hCC.1 t1 (am_ws_at ha |>.trans (by rw [am_ce_obj hka]))
        · show st.map (am_cv ad) = _
          conv => lhs; rw [hsp, eas]
          simp [am_cv]
      · cases hs
  case invokespecial x =>
    simp only [am_sem, am_ivi] at hs
    cases hr : am_rm (am_ow j) x with
    | mk kd k0 =>
      rw [hr] at hs
      dsimp only at hs
      split at hs
      · obtain ⟨rfl, rfl, has, rfl⟩ := am_cal_e hs
        obtain ⟨hc1, hc2, hc3, hc4, hc5⟩ := hc
        obtain ⟨lk, hst0, f1, f2, f4, f5, n, hn, f3⟩ := hI _ _ _ hr
        obtain ⟨a, as', eas, hty⟩ : ∃ a as', as = .ref a :: as' ∧ am_ty h a = some (am_ow k + 3) := by
          rw [← has] at hc3
          unfold am_rc at hc3
          split at hc3
          · exact ⟨_, _, rfl, hc3.resolve_left (by rw [hst0]; decide)⟩
          · rw [hst0] at hc3; cases hc3
        have hsp := am_st_split has
        have hss : am_ss h.1 as := fun w hw => hst w (by rw [hsp]; exact List.mem_append_left _ (List.mem_reverse.mpr hw))
        have hrs : am_ss h.1 (st.drop (am_na k)) := fun w hw => hst w (List.mem_of_mem_drop hw)
        have hlen : as.length = am_na k := by rw [has]; simp; omega
        have hM := ho H.size ad ca hss hB.2.2.2.2.2.2 hB.2.2.2.1
        rw [eas] at hM hlen
        have hsig : ∀ sig, parseMethodDescriptor (am_y k).desc = some sig → n = sig.parameters.length := fun sig hsig => by
          have f3 : _ = _ := f3
          rw [hsig] at f3
          exact (Option.some.inj f3).symm
        have hstk : st.map (am_cv ad) = (as'.map (am_cv ad)).reverse ++ .ref (ad a) :: (st.drop (am_na k)).map (am_cv ad) := by
          conv => lhs; rw [hsp, eas]
          simp [am_cv]
        have hln : (as'.map (am_cv ad)).length = n := by rw [List.length_map]; rw [hn] at hlen; exact Nat.succ.inj hlen
        have hcode : Cond.code (am_y k) (am_by k) (am_mL k) none ∈ am_wj k := by rw [← f5]; exact List.mem_cons_self
        have hcodeb : (Cond.code (am_y k) (am_by k) (am_mL k) none).before args s = true := by rw [← f5]; exact hts _ lk.1
        rcases f1 with f1 | ⟨host, f1⟩
        · exact am_after hA hin' hrs hc4 hc5 (aa := (Value.ref (ad a) :: as'.map (am_cv ad)).toArray) (va_runI (As := as'.map (am_cv ad)) (b := ad a) (n := n) ⟨hx, hb, hml, hown, hts⟩ hM ⟨⟨rfl, rfl, hfr, hlo, am_goodj lk hts, hcode, hcodeb, hts _ lk.2.1, lk.2.2.1, hsig, hts _ f1⟩, f4, hts _ f2⟩ ⟨am_blind, fun U hU hW => ⟨rfl, by rw [hU], by rw [hU]; exact hCC.moved hW.alike, hD.weaken (fun _ _ _ _ => trivial), hscr.2.warm hW⟩⟩ rfl hln hl.2.1 hstk (lv_room (by rw [am_cat_map]; exact hc2)) hd ⟨Nat.le_trans hc4 hRc, Nat.le_trans hc5 hRs⟩)
        · exact am_after hA hin' hrs hc4 hc5 (aa := (Value.ref (ad a) :: as'.map (am_cv ad)).toArray) (va_runIN (As := as'.map (am_cv ad)) (b := ad a) (n := n) (host := host) ⟨hx, hb, hml, hown, hts⟩ hM ⟨⟨⟨rfl, rfl, hfr, hlo, am_goodj lk hts, hcode⟩, hcodeb, hts _ lk.2.1, lk.2.2.1, hsig, va_Nw.use rfl (hscr.2 _ f1)⟩, f4, hts _ f2⟩ ⟨am_blind, fun U hU hW => ⟨rfl, by rw [hU], by rw [hU]; exact hCC.moved hW.alike, hD.weaken (fun _ _ _ _ => trivial), hscr.2.warm hW⟩⟩ rfl hln hl.2.1 hstk (lv_room (by rw [am_cat_map]; exact hc2)) hd ⟨Nat.le_trans hc4 hRc, Nat.le_trans hc5 hRs⟩)
      · obtain ⟨x, r, -, hs2⟩ := am_a1_i hs; exact (am_nocall hs2 rfl).elim
      · cases hs
  all_goals exact (Bool.false_ne_true hok).elim
end ACL
end
section
/-! A METHOD'S BODY, A METHOD -/
def am_MA (own x : Nat) (y : MethodName) (cd : ByteArray) (n : Nat) (ty : FieldType) : Prop := Cond.methodLink (am_cn own) x y ∈ am_tbl ∧ Cond.static y ∈ am_tbl ∧ Cond.initialized "java/lang/Math" ∈ am_tbl ∧ Cond.code y cd n (some ty) ∈ am_tbl
/-- what the tables of the program say -/
def am_FX : Prop := (∀ own x c k, am_rf own x = some (c, k) → am_FO own x c k) ∧ (∀ own x c, am_rn own x = some c → am_NO own x c) ∧ (∀ t, t < 3 → Cond.arrayClass (am_at t) ∈ am_tbl) ∧ (∀ own x k, am_rm own x = (0, k) → k ≠ am_lst → am_LS own x k) ∧ (∀ own x k, am_rm own x = (6, k) → am_LV own x k) ∧ (∀ own x k, am_rm own x = (7, k) → am_LI own x k) ∧ (∀ own x v, am_kL own x = some v → Cond.constantLong (am_cn own) x v ∈ am_tbl) ∧
  (∀ own x k, am_rm own x = (1, k) → Cond.methodLink (am_cn own) x Lib.objectInit ∈ am_tbl) ∧ Cond.instanceMethod Lib.objectInit ∈ am_tbl ∧ Cond.code Lib.objectInit ⟨#[0xb1]⟩ 1 none ∈ am_tbl ∧
  (∀ own x k, am_rm own x = (2, k) → am_MA own x Lib.Math.abs.name Lib.Math.abs.code 1 .int) ∧ (∀ own x k, am_rm own x = (3, k) → am_MA own x Lib.MathLoose.abs_long.x Lib.MathLoose.abs_long.code 2 .long) ∧ (∀ own x k, am_rm own x = (4, k) → am_MA own x Lib.MathLoose.max_long.x Lib.MathLoose.max_long.code 4 .long) ∧ (∀ own x k, am_rm own x = (5, k) → am_MA own x Lib.MathLoose.min_long.x Lib.MathLoose.min_long.code 4 .long)
/-- what an instruction returns -/
def am_rq (j : Nat) (i : Jvm.ClassFile.Instr) (v : Option Value) : Prop := (i = .ireturn ∧ ∃ x, v = some (.int x) ∧ (am_rt j = 0 ∨ am_rt j = 1 ∧ (x = 0 ∨ x = 1))) ∨ (i = .lreturn ∧ am_rt j = 2 ∧ ∃ x, v = some (.long x)) ∨ (i = .return_ ∧ am_rt j = 3 ∧ v = none)
theorem am_N_o {ls : am_L} {st : List Value} {h : am_H} {u : am_U} {z : Prop × am_O} (e : am_N ls st h u = some z) : ∃ S, z.2 = .inl S := by
  cases e; exact ⟨_, rfl⟩
theorem am_Nc_o {w : Prop} {ls : am_L} {st : List Value} {h : am_H} {u : am_U} {z : Prop × am_O} (e : am_Nc w ls st h u = some z) : ∃ S, z.2 = .inl S := by
  cases e; exact ⟨_, rfl⟩
theorem am_J_o {pc : Nat} {ls : am_L} {st : List Value} {h : am_H} {u : am_U} {z : Prop × am_O} (e : am_J pc ls st h u = some z) : ∃ S, z.2 = .inr (.inl S) := by
  cases e; exact ⟨_, rfl⟩
theorem am_kA {j : Nat} {i : Jvm.ClassFile.Instr} {pc : Nat} {ls : am_L} {st : List Value} {h : am_H} {u : am_U} {z : Prop × am_O} (hok : am_okA j i = true) (hs : am_sem j i pc ls st h u = some z) : ∃ S, z.2 = .inl S := by
  cases i <;> first
    | exact (Bool.false_ne_true hok).elim
    | exact am_N_o hs
    | exact am_Nc_o hs
    | (obtain ⟨_, _, hs⟩ := am_vi_i hs; exact am_N_o hs)
    | (obtain ⟨_, _, hs⟩ := am_vl_i hs; exact am_N_o hs)
    | (obtain ⟨_, _, hs⟩ := am_va_i hs; exact am_N_o hs)
    | (obtain ⟨_, _, _, hs⟩ := am_o1_i hs; first | exact am_N_o hs | exact am_Nc_o hs)
    | (obtain ⟨_, _, _, hs⟩ := am_l1_i hs; first | exact am_N_o hs | exact am_Nc_o hs)
    | (obtain ⟨_, _, _, hs⟩ := am_a1_i hs; first | exact am_N_o hs | exact am_Nc_o hs)
    | (obtain ⟨_, _, _, _, hs⟩ := am_o2_i hs; first | exact am_N_o hs | exact am_Nc_o hs)
    | (obtain ⟨_, _, _, _, hs⟩ := am_l2_i hs; first | exact am_N_o hs | exact am_Nc_o hs)
    | (obtain ⟨_, _, _, _, hs⟩ := am_li_i hs; first | exact am_N_o hs | exact am_Nc_o hs)
    | (obtain ⟨_, _, _, _, hs⟩ := am_ai_i hs; first | exact am_N_o hs | exact am_Nc_o hs)
    | (obtain ⟨_, _, _, _, _, hs⟩ := am_aii_i hs; exact am_Nc_o hs)
    | (obtain ⟨_, _, _, _, _, hs⟩ := am_ail_i hs; exact am_Nc_o hs)
    | (simp only [am_sem] at hs; split at hs; exact am_Nc_o hs; cases hs)
theorem am_kF {j : Nat} {i : Jvm.ClassFile.Instr} {pc : Nat} {ls : am_L} {st : List Value} {h : am_H} {u : am_U} {z : Prop × am_O} (hok : am_okF i = true) (hs : am_sem j i pc ls st h u = some z) : ∃ S, z.2 = .inl S := by
  cases i <;> first
    | exact (Bool.false_ne_true hok).elim
    | exact am_N_o hs
    | exact am_Nc_o hs
    | (obtain ⟨_, _, hs⟩ := am_vi_i hs; exact am_N_o hs)
    | (obtain ⟨_, _, hs⟩ := am_vl_i hs; exact am_N_o hs)
    | (obtain ⟨_, _, hs⟩ := am_va_i hs; exact am_N_o hs)
    | (obtain ⟨_, _, _, hs⟩ := am_o1_i hs; first | exact am_N_o hs | exact am_Nc_o hs)
    | (obtain ⟨_, _, _, hs⟩ := am_l1_i hs; first | exact am_N_o hs | exact am_Nc_o hs)
    | (obtain ⟨_, _, _, hs⟩ := am_a1_i hs; first | exact am_N_o hs | exact am_Nc_o hs)
    | (obtain ⟨_, _, _, _, hs⟩ := am_o2_i hs; first | exact am_N_o hs | exact am_Nc_o hs)
    | (obtain ⟨_, _, _, _, hs⟩ := am_l2_i hs; first | exact am_N_o hs | exact am_Nc_o hs)
    | (obtain ⟨_, _, _, _, hs⟩ := am_li_i hs; first | exact am_N_o hs | exact am_Nc_o hs)
    | (obtain ⟨_, _, _, _, hs⟩ := am_ai_i hs; first | exact am_N_o hs | exact am_Nc_o hs)
    | (obtain ⟨_, _, _, _, _, hs⟩ := am_aii_i hs; exact am_Nc_o hs)
    | (obtain ⟨_, _, _, _, _, hs⟩ := am_ail_i hs; exact am_Nc_o hs)
    | (simp only [am_sem] at hs
       split at hs
       · obtain ⟨_, _, _, hs⟩ := am_a1_i hs; exact am_Nc_o hs
       · cases hs)
    | (simp only [am_sem] at hs
       split at hs
       · obtain ⟨_, _, _, _, hs⟩ := am_av_i hs
         split at hs
         · exact am_Nc_o hs
         · cases hs
       · cases hs)
theorem am_kN {j : Nat} {i : Jvm.ClassFile.Instr} {pc : Nat} {ls : am_L} {st : List Value} {h : am_H} {u : am_U} {z : Prop × am_O} (hok : am_okN i = true) (hs : am_sem j i pc ls st h u = some z) : ∃ S, z.2 = .inl S := by
  cases i <;> first
    | exact (Bool.false_ne_true hok).elim
    | (simp only [am_sem] at hs
       split at hs
       · exact am_Nc_o hs
       · cases hs)
    | (simp only [am_sem] at hs
       split at hs
       · obtain ⟨_, _, _, hs⟩ := am_o1_i hs; exact am_Nc_o hs
       · cases hs)
theorem am_kJ {j : Nat} {i : Jvm.ClassFile.Instr} {pc : Nat} {ls : am_L} {st : List Value} {h : am_H} {u : am_U} {z : Prop × am_O} (hok : am_okJ pc i = true) (hs : am_sem j i pc ls st h u = some z) : ∃ S, z.2 = .inr (.inl S) := by
  cases i <;> first
    | exact (Bool.false_ne_true hok).elim
    | exact am_J_o hs
    | (obtain ⟨_, _, _, hs⟩ := am_o1_i hs; exact am_J_o hs)
    | (obtain ⟨_, _, _, _, hs⟩ := am_o2_i hs; exact am_J_o hs)
theorem am_kR {j : Nat} {i : Jvm.ClassFile.Instr} {pc : Nat} {ls : am_L} {st : List Value} {h : am_H} {u : am_U} {z : Prop × am_O} (hok : am_okR i = true) (hs : am_sem j i pc ls st h u = some z) : ∃ v, z.2 = .inr (.inr (.inr (v, h))) ∧ st = v.toList ∧ (z.1 → am_rq j i v) := by
  cases i
  case ireturn =>
    simp only [am_sem] at hs
    split at hs
    · cases hs; exact ⟨_, rfl, rfl, fun q => Or.inl ⟨rfl, _, rfl, q⟩⟩
    · cases hs
  case lreturn =>
    simp only [am_sem] at hs
    split at hs
    · cases hs; exact ⟨_, rfl, rfl, fun q => Or.inr (Or.inl ⟨rfl, q, _, rfl⟩)⟩
    · cases hs
  case return_ =>
    simp only [am_sem] at hs
    split at hs
    · cases hs; exact ⟨_, rfl, rfl, fun q => Or.inr (Or.inr ⟨rfl, q, rfl⟩)⟩
    · cases hs
  all_goals exact (Bool.false_ne_true hok).elim
theorem am_kM {j : Nat} {i : Jvm.ClassFile.Instr} {pc : Nat} {ls : am_L} {st : List Value} {h : am_H} {u : am_U} {z : Prop × am_O} (hok : am_okM j i = true) (hs : am_sem j i pc ls st h u = some z) : (∃ S, z.2 = .inl S) ∨ am_okC i = true ∧ ∃ k as S, z.2 = .inr (.inr (.inl (k, as, S))) ∧ am_RO j k := by
  cases i
  case ldc2_w x =>
    simp only [am_sem] at hs
    split at hs
    · exact Or.inl (am_N_o hs)
    · cases hs
  case ldc x => cases hs
  case athrow => cases hs
  case invokevirtual x =>
    simp only [am_sem, am_ivv] at hs
    cases hr : am_rm (am_ow j) x with
    | mk kd k0 =>
      have hok : am_okr j x = true := hok
      simp only [am_okr, hr] at hok
      rw [hr] at hs
      dsimp only at hs
      split at hs
      · cases hs
        simp only [Bool.and_eq_true, decide_eq_true_eq] at hok
        exact Or.inr ⟨rfl, _, _, _, rfl, hok⟩
      · cases hs
  case invokespecial x =>
    simp only [am_sem, am_ivi] at hs
    cases hr : am_rm (am_ow j) x with
    | mk kd k0 =>
      have hok : am_okr j x = true := hok
      simp only [am_okr, hr] at hok
      rw [hr] at hs
      dsimp only at hs
      split at hs
      · cases hs
        simp only [Bool.and_eq_true, decide_eq_true_eq] at hok
        exact Or.inr ⟨rfl, _, _, _, rfl, hok⟩
      · obtain ⟨_, _, _, hs⟩ := am_a1_i hs; exact Or.inl (am_Nc_o hs)
      · cases hs
  case invokestatic x =>
    simp only [am_sem, am_ivs] at hs
    cases hr : am_rm (am_ow j) x with
    | mk kd k0 =>
      have hok : am_okr j x = true := hok
      simp only [am_okr, hr] at hok
      rw [hr] at hs
      dsimp only at hs
      split at hs
      · cases hs
        simp only [Bool.and_eq_true, decide_eq_true_eq] at hok
        exact Or.inr ⟨rfl, _, _, _, rfl, hok⟩
      · obtain ⟨_, _, _, hs⟩ := am_o1_i hs; exact Or.inl (am_Nc_o hs)
      · obtain ⟨_, _, _, hs⟩ := am_l1_i hs; exact Or.inl (am_Nc_o hs)
      · obtain ⟨_, _, _, _, hs⟩ := am_l2_i hs; exact Or.inl (am_Nc_o hs)
      · obtain ⟨_, _, _, _, hs⟩ := am_l2_i hs; exact Or.inl (am_Nc_o hs)
      · cases hs
  all_goals exact (Bool.false_ne_true hok).elim
section ABD
variable {p : Program} {l : Launch} {e : Env} {R : Room} {s : State} {m : MethodId} {args : Array Value} {below : List Frame} {meth : Method} {c : Code} {Qw : State → Prop} {D : va_G} {A : Nat → Prop} {j n0 : Nat} {ad0 : Nat → Nat} {ca0 : Nat → ClassId} {l0 : Nat × Nat} {x0 : Nat → Int32}
/-- constants, Object's constructor, Math -/
theorem am_stM (F : am_FX) (hcn : (am_y j).cls = am_cn (am_ow j)) (cx : am_Cx p s m args meth c R A j ad0 l0 x0) {i : Jvm.ClassFile.Instr} {pc : Nat} {ls : am_L} {st : List Value} {h : am_H} {u : am_U} {q : Prop} {S : am_S} (hd : decode (am_by j) pc = .ok (i, am_lp i pc)) (hok : am_okM j i = true) (hs : am_sem j i pc ls st h u = some (q, .inl S)) (hc : q) (ho : am_Y p l e R s m args below meth c Qw D A j n0 ad0 ca0 l0 x0 (pc + am_len i) S.1 S.2.1 S.2.2.1 S.2.2.2) : am_Y p l e R s m args below meth c Qw D A j n0 ad0 ca0 l0 x0 pc ls st h u := by
  obtain ⟨-, -, -, -, -, -, F7, F8, F9, F10, F11, F12, F13, F14⟩ := F
  obtain ⟨hx, hb, hml, hown, hts, hini, hA, ⟨hRc, hRs, hRf, hRl⟩, hscr⟩ := cx
  rw [hcn] at hown
  intro ad ca la H locs hin
  obtain ⟨hB, hW, hu, hl, hst⟩ := hin
  cases i
  case ldc2_w x =>
    simp only [am_sem] at hs
    cases hr : am_kL (am_ow j) x with
    | none => rw [hr] at hs; cases hs
    | some v =>
      rw [hr] at hs
      obtain rfl := am_N_e hs
      exact lv_ldc2 hx hb hown (hts _ (F7 _ _ _ hr)) hd (ho ad ca la H locs ⟨hB, hW, hu, hl, hst.k trivial⟩)
  case ldc x => cases hs
  case athrow => cases hs
  case invokevirtual x =>
    simp only [am_sem, am_ivv] at hs
    split at hs
    · simp [am_cal] at hs
    · cases hs
  case invokespecial x =>
    simp only [am_sem, am_ivi] at hs
    cases hr : am_rm (am_ow j) x with
    | mk kd k0 =>
      have hok : am_okr j x = true := hok
      simp only [am_okr, hr] at hok
      rw [hr] at hs
      dsimp only at hs
      split at hs
      · simp [am_cal] at hs
      · obtain ⟨a, r, est, hs2⟩ := am_a1_i hs
        clear hs
        subst est
        obtain ⟨rfl, rfl⟩ := am_Nc_e hs2
        simp only [Bool.and_eq_true, decide_eq_true_eq] at hok
        have hc : (r.map fun v => v.category).sum ≤ 8 := hc
        refine W.objInit hx hb hown (hts _ (F8 _ _ _ hr)) (hts _ F9) (hts _ F10) rfl (by rw [hml]; exact hl.2.1) rfl hd (Nat.le_trans hok.1 hRf) ?_ ?_
        · have := Nat.le_trans hok.2 hRl
          show 2 * 0 + ((r.map (am_cv ad)).map fun v => v.category).sum + 12 ≤ R.locals
          rw [am_cat_map]
          omega
        · exact W.eq (g2 := F0 m (pc + 3) la (r.map (am_cv ad))) rfl (ho ad ca la H locs ⟨hB, hW, hu, hl, hst.t⟩)
      · cases hs
  case invokestatic x =>
    simp only [am_sem, am_ivs] at hs
    cases hr : am_rm (am_ow j) x with
    | mk kd k0 =>
      have hok : am_okr j x = true := hok
      simp only [am_okr, hr] at hok
      rw [hr] at hs
      dsimp only at hs
      split at hs
      · simp [am_cal] at hs
      · obtain ⟨x1, r, est, hs2⟩ := am_o1_i hs
        clear hs
        subst est
        obtain ⟨rfl, rfl⟩ := am_Nc_e hs2
        simp only [Bool.and_eq_true, decide_eq_true_eq] at hok
        have hc : (r.map fun v => v.category).sum ≤ 8 := hc
        obtain ⟨q1, q2, q3, q4⟩ := F11 _ _ _ hr
        have hlo : ((r.map (am_cv ad)).map fun v => v.category).sum + 13 ≤ R.locals := by
          have := Nat.le_trans hok.2 hRl
          rw [am_cat_map]
          omega
        exact va_mabs hx hb (by rw [hml]; exact hl.2.1.symm) hown (hts _ q1) (hts _ q2) (hts _ q3) (hts _ q4) (Nat.le_trans hok.1 hRf) hlo (Nat.le_trans hu.1 hRc) (Nat.le_trans hu.2 hRs) hd (ho ad ca la H locs ⟨hB, hW, hu, hl, (hst.t).k trivial⟩)
      · obtain ⟨x1, r, est, hs2⟩ := am_l1_i hs
        clear hs
        subst est
        obtain ⟨rfl, rfl⟩ := am_Nc_e hs2
        simp only [Bool.and_eq_true, decide_eq_true_eq] at hok
        have hc : (r.map fun v => v.category).sum ≤ 8 := hc
        obtain ⟨q1, q2, q3, q4⟩ := F12 _ _ _ hr
        have hlo : ((r.map (am_cv ad)).map fun v => v.category).sum + 13 ≤ R.locals := by
          have := Nat.le_trans hok.2 hRl
          rw [am_cat_map]
          omega
        exact va_mabs_long hx hb (by rw [hml]; exact hl.2.1.symm) hown (hts _ q1) (hts _ q2) (hts _ q3) (hts _ q4) (Nat.le_trans hok.1 hRf) hlo (Nat.le_trans hu.1 hRc) (Nat.le_trans hu.2 hRs) hd (ho ad ca la H locs ⟨hB, hW, hu, hl, (hst.t).k trivial⟩)
      · obtain ⟨x1, x2, r, est, hs2⟩ := am_l2_i hs
        clear hs
        subst est
        obtain ⟨rfl, rfl⟩ := am_Nc_e hs2
        simp only [Bool.and_eq_true, decide_eq_true_eq] at hok
        have hc : (r.map fun v => v.category).sum ≤ 8 := hc
        obtain ⟨q1, q2, q3, q4⟩ := F13 _ _ _ hr
        have hlo : ((r.map (am_cv ad)).map fun v => v.category).sum + 15 ≤ R.locals := by
          have := Nat.le_trans hok.2 hRl
          rw [am_cat_map]
          omega
        exact va_mmax_long hx hb (by rw [hml]; exact hl.2.1.symm) hown (hts _ q1) (hts _ q2) (hts _ q3) (hts _ q4) (Nat.le_trans hok.1 hRf) hlo (Nat.le_trans hu.1 hRc) (Nat.le_trans hu.2 hRs) hd (ho ad ca la H locs ⟨hB, hW, hu, hl, (hst.t.t).k trivial⟩)
      · obtain ⟨x1, x2, r, est, hs2⟩ := am_l2_i hs
        clear hs
        subst est
        obtain ⟨rfl, rfl⟩ := am_Nc_e hs2
        simp only [Bool.and_eq_true, decide_eq_true_eq] at hok
        have hc : (r.map fun v => v.category).sum ≤ 8 := hc
        obtain ⟨q1, q2, q3, q4⟩ := F14 _ _ _ hr
        have hlo : ((r.map (am_cv ad)).map fun v => v.category).sum + 15 ≤ R.locals := by
          have := Nat.le_trans hok.2 hRl
          rw [am_cat_map]
          omega
        exact va_mmin_long hx hb (by rw [hml]; exact hl.2.1.symm) hown (hts _ q1) (hts _ q2) (hts _ q3) (hts _ q4) (Nat.le_trans hok.1 hRf) hlo (Nat.le_trans hu.1 hRc) (Nat.le_trans hu.2 hRs) hd (ho ad ca la H locs ⟨hB, hW, hu, hl, (hst.t.t).k trivial⟩)
      · cases hs
  all_goals exact (Bool.false_ne_true hok).elim
/-- a stretch of code -/
theorem am_run_s (F : am_FX) (hcn : (am_y j).cls = am_cn (am_ow j)) (cx : am_Cx p s m args meth c R A j ad0 l0 x0) {C : am_C} {Q : Option Value → am_H → Prop} {X : am_X} (hC : ∀ k as h Z, k ≠ am_lst → C k as h Z → am_MM l D k as h Z) (hLst : ∀ (i : Jvm.ClassFile.Instr) (pc : Nat) (ls : am_L) (st : List Value) (h : am_H) (u : am_U) (q : Prop) (as : List Value) (S : am_S), decode (am_by j) pc = .ok (i, 3) → am_okC i = true → am_sem j i pc ls st h u = some (q, .inr (.inr (.inl (am_lst, as, S)))) → q → C am_lst as S.2.2.1 (fun v h' => am_Y p l e R s m args below meth c Qw D A j n0 ad0 ca0 l0 x0 (pc + 3) S.1 (v.toList ++ S.2.1) h' S.2.2.2) → am_Y p l e R s m args below meth c Qw D A j n0 ad0 ca0 l0 x0 pc ls st h u) (hCm : ∀ k as h (Z Z' : Option Value → am_H → Prop), (∀ v h, Z v h → Z' v h) → C k as h Z → C k as h Z') (hX : ∀ pc ls st h u, X pc ls st h u → am_Y p l e R s m args below meth c Qw D A j n0 ad0 ca0 l0 x0 pc ls st h u)
    (hR : ∀ (i : Jvm.ClassFile.Instr) (pc : Nat) (v : Option Value) (ls : am_L) (h : am_H) (u : am_U), decode (am_by j) pc = .ok (i, 1) → am_rq j i v → Q v h → am_Y p l e R s m args below meth c Qw D A j n0 ad0 ca0 l0 x0 pc ls v.toList h u) :
    ∀ (r : List Jvm.ClassFile.Instr) (pc : Nat) (S : am_S), am_chkB j pc r = true → am_run j C Q X r pc S → am_Y p l e R s m args below meth c Qw D A j n0 ad0 ca0 l0 x0 pc S.1 S.2.1 S.2.2.1 S.2.2.2 := by
  intro r
  induction r with
  | nil => exact fun pc S _ ev => hX _ _ _ _ _ ev
  | cons i r ih =>
    rintro pc ⟨ls, st, h, u⟩ hk ev
    simp only [am_chkB, Bool.and_eq_true, decide_eq_true_eq] at hk
    obtain ⟨⟨hd, hi⟩, hk⟩ := hk
    have ev : am_ev j C Q X (am_run j C Q X r (pc + am_len i)) (am_sem j i pc ls st h u) := ev
    show am_Y p l e R s m args below meth c Qw D A j n0 ad0 ca0 l0 x0 pc ls st h u
    cases hs : am_sem j i pc ls st h u with
    | none => rw [hs] at ev; exact ev.elim
    | some z =>
      obtain ⟨q, o⟩ := z
      rw [hs] at ev
      simp only [am_chkI, Bool.or_eq_true] at hi
      rcases hi with ((((hi | hi) | hi) | hi) | hi) | hi
      · obtain ⟨S, rfl⟩ : ∃ S, o = .inl S := am_kA hi hs
        exact am_stA cx hd hi hs ev.1 (ih _ _ hk ev.2)
      · obtain ⟨S, rfl⟩ : ∃ S, o = .inr (.inl S) := am_kJ hi hs
        exact am_stJ cx hd hi hs (hX _ _ _ _ _ ev.2)
      · obtain ⟨S, rfl⟩ : ∃ S, o = .inl S := am_kF hi hs
        exact am_stF F.1 hcn cx hd hi hs ev.1 (ih _ _ hk ev.2)
      · obtain ⟨S, rfl⟩ : ∃ S, o = .inl S := am_kN hi hs
        exact am_stN F.2.1 F.2.2.1 hcn cx hd hi hs ev.1 (ih _ _ hk ev.2)
      · obtain ⟨v, ho, hst, hq⟩ := am_kR hi hs
        have ho : o = .inr (.inr (.inr (v, h))) := ho
        subst ho
        rw [hst]
        refine hR i pc v ls h u ?_ (hq ev.1) ev.2
        rw [hd]
        cases i <;> first | exact (Bool.false_ne_true hi).elim | rfl
      · rcases am_kM hi hs with ⟨S, ho⟩ | ⟨hc, k, as, S, ho, hro⟩
        · have ho : o = .inl S := ho
          subst ho
          exact am_stM F hcn cx hd hi hs ev.1 (ih _ _ hk ev.2)
        · have ho : o = .inr (.inr (.inl (k, as, S))) := ho
          subst ho
          have h3 : pc + am_len i = pc + 3 := by cases i <;> first | exact (Bool.false_ne_true hc).elim | rfl
          have h4 : am_lp i pc = 3 := by cases i <;> first | exact (Bool.false_ne_true hc).elim | rfl
          have hcc := hCm _ _ _ _ (fun v h' => am_Y p l e R s m args below meth c Qw D A j n0 ad0 ca0 l0 x0 (pc + 3) S.1 (v.toList ++ S.2.1) h' S.2.2.2) (fun v h' hz => by
            have := ih _ _ hk hz
            rw [h3] at this
            exact this) ev.2
          by_cases hkl : k = am_lst
          · subst hkl
            exact hLst i pc ls st h u _ as S (by rw [hd, h4]) hc hs ev.1 hcc
          · exact am_stC F.2.2.2.1 F.2.2.2.2.1 F.2.2.2.2.2.1 hcn cx hkl hro hd hs hc ev.1 (hC _ _ _ _ hkl hcc)
end ABD
end
section
/-! A METHOD: its contract out of the abstract machine -/
theorem am_sp_len {ad : Nat → Nat} : ∀ (as : List Value), (lg_sl (as.map (am_cv ad))).length = (am_sp as).length
  | [] => rfl
  | v :: r => by
    have ih := am_sp_len (ad := ad) r
    unfold lg_sl at ih ⊢
    rw [List.map_cons, List.flatMap_cons, List.length_append, ih, am_cv_cat]
    have e : (am_sp (v :: r)).length = (if v.category = 2 then [Slot.val (am_cv ad v), Slot.second] else [Slot.val (am_cv ad v)]).length + (am_sp r).length := by
      rw [am_sp]
      split <;> simp <;> omega
    exact e.symm
theorem am_lk_app : ∀ {l r : am_L} {i : Nat} {v : Value}, am_lk (l ++ r) i = some v → (i < l.length ∧ am_lk l i = some v) ∨ (∃ k, i = l.length + k ∧ am_lk r k = some v)
  | [], r, i, v, h => Or.inr ⟨i, by simp, h⟩
  | x :: t, r, 0, v, h => Or.inl ⟨by simp, h⟩
  | x :: t, r, i + 1, v, h => by
    rcases am_lk_app (l := t) (r := r) (i := i) (v := v) h with ⟨h1, h2⟩ | ⟨k, h1, h2⟩
    · exact Or.inl ⟨by simp; omega, h2⟩
    · exact Or.inr ⟨k, by simp; omega, h2⟩
theorem am_lk_none : ∀ (n i : Nat), am_lk (List.replicate n none) i = none
  | 0, _ => rfl
  | n + 1, 0 => rfl
  | n + 1, i + 1 => am_lk_none n i
theorem am_sp_args {ad : Nat → Nat} : ∀ (as : List Value) (b i : Nat) (v : Value), am_lk (am_sp as) i = some v → (b + i, am_cv ad v) ∈ lv_args b (as.map (am_cv ad))
  | [], b, i, v, h => by simp [am_sp, am_lk] at h
  | w :: r, b, i, v, h => by
    rw [List.map_cons]
    unfold lv_args
    rw [am_cv_cat]
    unfold am_sp at h
    by_cases hc : w.category = 2
    · rw [if_pos hc] at h ⊢
      match i, h with
      | 0, h => cases h; exact List.mem_cons_self
      | 1, h => cases h
      | i + 2, h =>
        have := am_sp_args (ad := ad) r (b + 2) i v h
        rw [show b + (i + 2) = b + 2 + i by omega]
        exact List.mem_cons_of_mem _ this
    · rw [if_neg hc] at h ⊢
      match i, h with
      | 0, h => cases h; exact List.mem_cons_self
      | i + 1, h =>
        have := am_sp_args (ad := ad) r (b + 1) i v h
        rw [show b + (i + 1) = b + 1 + i by omega]
        exact List.mem_cons_of_mem _ this
theorem am_en_lk {k i : Nat} {as : List Value} {v : Value} (h : am_lk (am_en k as) i = some v) : am_lk (am_sp as) i = some v := by
  rcases am_lk_app h with ⟨-, h⟩ | ⟨z, -, h⟩
  · exact h
  · rw [am_lk_none] at h; cases h
theorem am_en_lo {ad : Nat → Nat} {k : Nat} {as : List Value} {la : Array Slot} (h : lv_has la (am_mL k) (lv_args 0 (as.map (am_cv ad)))) : am_lo ad (am_mL k) la (am_en k as) := by
  refine ⟨h.1, h.2.1, fun q hq => ?_⟩
  obtain ⟨v, h1, h2⟩ := am_ll_mem.mp hq
  have := am_sp_args (ad := ad) as 0 q.1 v (am_en_lk h1)
  rw [Nat.zero_add, ← h2] at this
  exact h.2.2 q this
theorem am_sp_mem : ∀ {as : List Value} {i : Nat} {v : Value}, am_lk (am_sp as) i = some v → v ∈ as
  | [], i, v, h => by simp [am_sp, am_lk] at h
  | w :: r, i, v, h => by
    unfold am_sp at h
    by_cases hc : w.category = 2
    · rw [if_pos hc] at h
      match i, h with
      | 0, h => cases h; exact List.mem_cons_self
      | 1, h => cases h
      | i + 2, h => exact List.mem_cons_of_mem _ (am_sp_mem (as := r) (i := i) h)
    · rw [if_neg hc] at h
      match i, h with
      | 0, h => cases h; exact List.mem_cons_self
      | i + 1, h => exact List.mem_cons_of_mem _ (am_sp_mem (as := r) (i := i) h)
theorem am_chk_code {k : Nat} (h : am_chk k = true) (pc : Nat) : am_chkB k pc (am_code k pc) = true := by
  unfold am_code
  cases hl : (am_kd k).lookup pc with
  | none => rfl
  | some b =>
    have hm : (pc, b) ∈ am_kd k := by
      generalize am_kd k = kd at hl
      induction kd with
      | nil => cases hl
      | cons x r ih =>
        obtain ⟨y, z⟩ := x
        rw [List.lookup_cons] at hl
        by_cases hy : pc = y
        · subst hy
          simp at hl
          rw [hl]; exact List.mem_cons_self
        · have : (pc == y) = false := by simpa using hy
          rw [this] at hl
          exact List.mem_cons_of_mem _ (ih hl)
    exact List.all_eq_true.mp h _ hm
theorem am_ini_all : (List.range am_lst).all (fun k => !am_in k || decide ((am_y k).name = "<init>")) = true := by decide +kernel
theorem am_ini_name {k : Nat} (hk : k < am_lst) (hi : am_in k = true) : (am_y k).name = "<init>" := by
  have := List.all_eq_true.mp am_ini_all k (List.mem_range.mpr hk)
  rw [hi] at this
  simpa using this
theorem am_nolst : ∀ (d : Nat) {as : List Value} {h : am_H} {Z : Option Value → am_H → Prop}, am_call d am_lst as h Z → False
  | 0, _, _, _, e => e
  | _ + 1, _, _, _, e => Nat.lt_irrefl _ e.1.1
set_option maxHeartbeats 1000000 in
theorem am_sound (F : am_FX) (K : ∀ k, k < am_lst → am_LK k ∧ am_chk k = true) (l : Launch) (D : va_G) : ∀ (d k : Nat) (as : List Value) (h : am_H) (Z : Option Value → am_H → Prop), am_call d k as h Z → am_MM l D k as h Z
  | 0, _, _, _, _, e => e.elim
  | d + 1, k, as, h, Z, e => by
    intro sz ad ca hss hsh h1000
    obtain ⟨⟨hk, hlen⟩, ew⟩ := e
    obtain ⟨lk, hchk⟩ := K k hk
    refine Met.ofW (cc := am_by k) (maxL := am_mL k) (ret := am_ret k) lk.2.2.2.1 rfl ?_
    intro p e s m args below meth c s₁ B hml hv
    obtain ⟨rfl, hsz, hCC, hD0, hNS⟩ := hv
    subst hsz
    have hts : ∀ w ∈ am_tbl, w.before (as.map (am_cv ad)).toArray s = true := fun w hw => atoms_spec (ws := am_wj k) B.pre w (List.mem_cons_of_mem _ hw)
    have hown : s.vm.findClass (am_y k).cls = some m.cls := findClass_of_methodNamed B.named
    have hD := hD0.self (sz := s.heap.size)
    have hr := B.returns
    have hlocks := B.notSynchronized
    generalize hAe : va_A (am_ws ad ca h) s.heap.size = A at hD ⊢
    have hA : ∀ q : Nat, s.heap.size ≤ q → A q := fun q hq => by rw [← hAe]; exact Or.inr hq
    have cx : am_Cx p s m (as.map (am_cv ad)).toArray meth c (headSpec (am_wj k) (am_room k)).room A k ad (h.2.1 1000) (h.2.2.1 1000) := by
      refine ⟨B.exec, B.bytes, hml, hown, hts, fun hi => ?_, hA, ⟨Nat.le_refl _, Nat.le_refl _, Nat.le_refl _, Nat.le_refl _⟩, fun hj => absurd hj (Nat.ne_of_lt (Nat.lt_of_lt_of_le hk (by decide))), hNS⟩
      have hn := (name_of_methodNamed B.named B.method).1
      rw [hn]
      exact am_ini_name hk hi
    have hR : ∀ (i : Jvm.ClassFile.Instr) (pc : Nat) (v : Option Value) (ls : am_L) (h' : am_H) (u : am_U), decode (am_by k) pc = .ok (i, 1) → am_rq k i v → Z v h' → am_Y p l e (headSpec (am_wj k) (am_room k)).room s m (as.map (am_cv ad)).toArray below meth c (MQ below (am_Qm D ad ca h Z A) (as.map (am_cv ad)).toArray s (am_mc k) (am_ms k) A) D A k h.1 ad ca (h.2.1 1000) (h.2.2.1 1000) pc ls v.toList h' u := by
      intro i pc v ls h' u hd hq hZ ad' ca' la H locs hin
      obtain ⟨hB, ⟨hCC', hD', hS'⟩, hu, hl, hst⟩ := hin
      refine W.widen hu.1 hu.2 ?_
      have hQ : ∀ (w : Value), v = some w → ∀ t : State, t.heap = H → s.WarmedH t.vm → am_Qm D ad ca h Z A (as.map (am_cv ad)).toArray s (.returned (some (am_cv ad' w))) t := fun w hw t ht hW => by
        subst hw
        exact ⟨⟨some w, h', ad', ca', rfl, hZ, hB, (fun x hx => by cases hx; exact hst _ List.mem_cons_self), (by rw [ht]; exact hCC'.moved hW.alike), hD'⟩, hS'.F ht⟩
      rcases hq with ⟨rfl, x, rfl, hq⟩ | ⟨rfl, hq, x, rfl⟩ | ⟨rfl, hq, rfl⟩
      · rcases hq with hq | ⟨hq, hx⟩
        · exact W.iret (v := x) B.exec B.bytes (hr.trans (by simp [am_ret, hq])) (hQ _ rfl) hS'.2.2 hd
        · exact W.zret (v := x) (ty := .boolean) B.exec B.bytes (hr.trans (by simp [am_ret, hq])) (by rcases hx with rfl | rfl <;> rfl) (hQ _ rfl) hS'.2.2 hd
      · exact W.lret (v := x) B.exec B.bytes (hr.trans (by simp [am_ret, hq])) (hQ _ rfl) hS'.2.2 hd
      · exact W.vret B.exec B.bytes (hr.trans (by simp [am_ret, hq])) (fun t ht hW => ⟨⟨none, h', ad', ca', rfl, hZ, hB, (fun x hx => by cases hx), (by rw [ht]; exact hCC'.moved hW.alike), hD'⟩, hS'.F ht⟩) hS'.2.2 hd
    have key := ew (am_Y p l e (headSpec (am_wj k) (am_room k)).room s m (as.map (am_cv ad)).toArray below meth c (MQ below (am_Qm D ad ca h Z A) (as.map (am_cv ad)).toArray s (am_mc k) (am_ms k) A) D A k h.1 ad ca (h.2.1 1000) (h.2.2.1 1000))
      (fun pc ls st h' u z => am_run_s F lk.2.2.2.2 cx (fun k as h Z _ => am_sound F K l D d k as h Z) (fun i pc ls st h u q as S _ _ _ _ z => (am_nolst d z).elim) (am_call_mono d) (fun _ _ _ _ _ z => z) hR _ _ _ (am_chk_code hchk pc) z)
      (fun pc ls ls' st h' u hle hx ad' ca' la H locs hin => hx ad' ca' la H locs ⟨hin.1, hin.2.1, hin.2.2.1, ⟨fun i v hv => hin.2.2.2.1.1 i v (hle i v hv), am_lo_le hle hin.2.2.2.1.2⟩, hin.2.2.2.2⟩)
    have hl := lv_entry (as.map (am_cv ad)) (n := am_mL k) (by rw [am_sp_len]; exact hlen)
    rw [lg_entry_eq]
    generalize (lg_sl (as.map (am_cv ad)) ++ List.replicate (am_mL k - (lg_sl (as.map (am_cv ad))).length) Slot.unset).toArray = la at hl ⊢
    exact key ad ca la s.heap [] ⟨⟨fun _ _ => rfl, fun _ _ => rfl, Nat.le_refl _, h1000, rfl, rfl, hsh⟩, ⟨hCC, hD, va_S.rf⟩, ⟨Nat.zero_le _, Nat.zero_le _⟩, ⟨fun i v hv => hss _ (am_sp_mem (am_en_lk hv)), am_en_lo hl⟩, fun w hw => (List.not_mem_nil hw).elim⟩
end
section
/-! WHAT THE TABLES SAY: printed by wip/gen/facts.py -/
theorem tb_1 {w : Cond} (i : Nat) (h : tables_1_1[i]? = some w) (g : goodWord w = true) : w ∈ am_tbl := by
  have hm := List.mem_of_getElem? h
  exact List.mem_filter.mpr ⟨List.mem_append_right _ (show w ∈ tables_1_1 ++ (tables_1_2 ++ (tables_1_3 ++ (tables_1_4 ++ tables_1_5))) from List.mem_append_left _ hm), g⟩
theorem tb_2 {w : Cond} (i : Nat) (h : tables_1_2[i]? = some w) (g : goodWord w = true) : w ∈ am_tbl := by
  have hm := List.mem_of_getElem? h
  exact List.mem_filter.mpr ⟨List.mem_append_right _ (show w ∈ tables_1_1 ++ (tables_1_2 ++ (tables_1_3 ++ (tables_1_4 ++ tables_1_5))) from List.mem_append_right _ (List.mem_append_left _ hm)), g⟩
theorem tb_3 {w : Cond} (i : Nat) (h : tables_1_3[i]? = some w) (g : goodWord w = true) : w ∈ am_tbl := by
  have hm := List.mem_of_getElem? h
  exact List.mem_filter.mpr ⟨List.mem_append_right _ (show w ∈ tables_1_1 ++ (tables_1_2 ++ (tables_1_3 ++ (tables_1_4 ++ tables_1_5))) from List.mem_append_right _ (List.mem_append_right _ (List.mem_append_left _ hm))), g⟩
theorem tb_4 {w : Cond} (i : Nat) (h : tables_1_4[i]? = some w) (g : goodWord w = true) : w ∈ am_tbl := by
  have hm := List.mem_of_getElem? h
  exact List.mem_filter.mpr ⟨List.mem_append_right _ (show w ∈ tables_1_1 ++ (tables_1_2 ++ (tables_1_3 ++ (tables_1_4 ++ tables_1_5))) from List.mem_append_right _ (List.mem_append_right _ (List.mem_append_right _ (List.mem_append_left _ hm)))), g⟩
theorem tb_5 {w : Cond} (i : Nat) (h : tables_1_5[i]? = some w) (g : goodWord w = true) : w ∈ am_tbl := by
  have hm := List.mem_of_getElem? h
  exact List.mem_filter.mpr ⟨List.mem_append_right _ (show w ∈ tables_1_1 ++ (tables_1_2 ++ (tables_1_3 ++ (tables_1_4 ++ tables_1_5))) from List.mem_append_right _ (List.mem_append_right _ (List.mem_append_right _ (List.mem_append_right _ (hm))))), g⟩
theorem tb_p {w : Cond} (i : Nat) (h : (k2_sels lw_privs)[i]? = some w) (g : goodWord w = true) : w ∈ am_tbl := List.mem_filter.mpr ⟨List.mem_append_left _ (List.mem_of_getElem? h), g⟩
set_option maxRecDepth 20000 in
theorem tb_C0 : am_CO 0 := by
  refine ⟨tb_T0, tb_y0, rfl, ?_, by decide +kernel, by decide +kernel, by decide +kernel⟩
  show ∀ w ∈ ([u_lay (am_cn 0) tb_T0 0, u_lay (am_cn 0) tb_T0 1, u_lay (am_cn 0) tb_T0 2, u_lay (am_cn 0) tb_T0 3] : List Cond), w ∈ am_tbl
  exact List.forall_mem_cons.mpr ⟨(tb_1 95 rfl rfl), List.forall_mem_cons.mpr ⟨(tb_1 97 rfl rfl), List.forall_mem_cons.mpr ⟨(tb_1 99 rfl rfl), List.forall_mem_cons.mpr ⟨(tb_1 101 rfl rfl), fun _ h => (List.not_mem_nil h).elim⟩⟩⟩⟩
set_option maxRecDepth 20000 in
theorem tb_C1 : am_CO 1 := by
  refine ⟨tb_T1, tb_y1, rfl, ?_, by decide +kernel, by decide +kernel, by decide +kernel⟩
  show ∀ w ∈ ([u_lay (am_cn 1) tb_T1 0, u_lay (am_cn 1) tb_T1 1] : List Cond), w ∈ am_tbl
  exact List.forall_mem_cons.mpr ⟨(tb_1 162 rfl rfl), List.forall_mem_cons.mpr ⟨(tb_1 164 rfl rfl), fun _ h => (List.not_mem_nil h).elim⟩⟩
set_option maxRecDepth 20000 in
theorem tb_C2 : am_CO 2 := by
  refine ⟨tb_T2, tb_y2, rfl, ?_, by decide +kernel, by decide +kernel, by decide +kernel⟩
  show ∀ w ∈ ([u_lay (am_cn 2) tb_T2 0, u_lay (am_cn 2) tb_T2 1] : List Cond), w ∈ am_tbl
  exact List.forall_mem_cons.mpr ⟨(tb_1 149 rfl rfl), List.forall_mem_cons.mpr ⟨(tb_1 151 rfl rfl), fun _ h => (List.not_mem_nil h).elim⟩⟩
set_option maxRecDepth 20000 in
theorem tb_C3 : am_CO 3 := by
  refine ⟨tb_T3, tb_y3, rfl, ?_, by decide +kernel, by decide +kernel, by decide +kernel⟩
  show ∀ w ∈ ([u_lay (am_cn 3) tb_T3 0, u_lay (am_cn 3) tb_T3 1, u_lay (am_cn 3) tb_T3 2, u_lay (am_cn 3) tb_T3 3] : List Cond), w ∈ am_tbl
  exact List.forall_mem_cons.mpr ⟨(tb_1 34 rfl rfl), List.forall_mem_cons.mpr ⟨(tb_1 36 rfl rfl), List.forall_mem_cons.mpr ⟨(tb_1 38 rfl rfl), List.forall_mem_cons.mpr ⟨(tb_1 40 rfl rfl), fun _ h => (List.not_mem_nil h).elim⟩⟩⟩⟩
set_option maxRecDepth 20000 in
theorem tb_C4 : am_CO 4 := by
  refine ⟨tb_T4, tb_y4, rfl, ?_, by decide +kernel, by decide +kernel, by decide +kernel⟩
  show ∀ w ∈ ([u_lay (am_cn 4) tb_T4 0, u_lay (am_cn 4) tb_T4 1, u_lay (am_cn 4) tb_T4 2, u_lay (am_cn 4) tb_T4 3, u_lay (am_cn 4) tb_T4 4, u_lay (am_cn 4) tb_T4 5, u_lay (am_cn 4) tb_T4 6, u_lay (am_cn 4) tb_T4 7, u_lay (am_cn 4) tb_T4 8] : List Cond), w ∈ am_tbl
  exact List.forall_mem_cons.mpr ⟨(tb_1 59 rfl rfl), List.forall_mem_cons.mpr ⟨(tb_1 61 rfl rfl), List.forall_mem_cons.mpr ⟨(tb_1 63 rfl rfl), List.forall_mem_cons.mpr ⟨(tb_1 65 rfl rfl), List.forall_mem_cons.mpr ⟨(tb_1 67 rfl rfl), List.forall_mem_cons.mpr ⟨(tb_1 69 rfl rfl), List.forall_mem_cons.mpr ⟨(tb_1 71 rfl rfl), List.forall_mem_cons.mpr ⟨(tb_1 73 rfl rfl), List.forall_mem_cons.mpr ⟨(tb_1 75 rfl rfl), fun _ h => (List.not_mem_nil h).elim⟩⟩⟩⟩⟩⟩⟩⟩⟩
set_option maxRecDepth 20000 in
theorem tb_C5 : am_CO 5 := by
  refine ⟨tb_T5, tb_y5, rfl, ?_, by decide +kernel, by decide +kernel, by decide +kernel⟩
  show ∀ w ∈ ([u_lay (am_cn 5) tb_T5 0, u_lay (am_cn 5) tb_T5 1, u_lay (am_cn 5) tb_T5 2, u_lay (am_cn 5) tb_T5 3] : List Cond), w ∈ am_tbl
  exact List.forall_mem_cons.mpr ⟨(tb_1 177 rfl rfl), List.forall_mem_cons.mpr ⟨(tb_1 179 rfl rfl), List.forall_mem_cons.mpr ⟨(tb_1 181 rfl rfl), List.forall_mem_cons.mpr ⟨(tb_1 183 rfl rfl), fun _ h => (List.not_mem_nil h).elim⟩⟩⟩⟩
set_option maxRecDepth 20000 in
theorem tb_C6 : am_CO 6 := by
  refine ⟨tb_T6, tb_y6, rfl, ?_, by decide +kernel, by decide +kernel, by decide +kernel⟩
  show ∀ w ∈ ([u_lay (am_cn 6) tb_T6 0, u_lay (am_cn 6) tb_T6 1, u_lay (am_cn 6) tb_T6 2, u_lay (am_cn 6) tb_T6 3, u_lay (am_cn 6) tb_T6 4, u_lay (am_cn 6) tb_T6 5, u_lay (am_cn 6) tb_T6 6, u_lay (am_cn 6) tb_T6 7, u_lay (am_cn 6) tb_T6 8, u_lay (am_cn 6) tb_T6 9, u_lay (am_cn 6) tb_T6 10, u_lay (am_cn 6) tb_T6 11] : List Cond), w ∈ am_tbl
  exact List.forall_mem_cons.mpr ⟨(tb_1 116 rfl rfl), List.forall_mem_cons.mpr ⟨(tb_1 118 rfl rfl), List.forall_mem_cons.mpr ⟨(tb_1 120 rfl rfl), List.forall_mem_cons.mpr ⟨(tb_1 122 rfl rfl), List.forall_mem_cons.mpr ⟨(tb_1 124 rfl rfl), List.forall_mem_cons.mpr ⟨(tb_1 126 rfl rfl), List.forall_mem_cons.mpr ⟨(tb_1 128 rfl rfl), List.forall_mem_cons.mpr ⟨(tb_1 130 rfl rfl), List.forall_mem_cons.mpr ⟨(tb_1 132 rfl rfl), List.forall_mem_cons.mpr ⟨(tb_1 134 rfl rfl), List.forall_mem_cons.mpr ⟨(tb_1 136 rfl rfl), List.forall_mem_cons.mpr ⟨(tb_1 138 rfl rfl), fun _ h => (List.not_mem_nil h).elim⟩⟩⟩⟩⟩⟩⟩⟩⟩⟩⟩⟩
set_option maxRecDepth 20000 in
theorem tb_C7 : am_CO 7 := by
  refine ⟨tb_T7, tb_y7, rfl, ?_, by decide +kernel, by decide +kernel, by decide +kernel⟩
  show ∀ w ∈ ([u_lay (am_cn 7) tb_T7 0, u_lay (am_cn 7) tb_T7 1, u_lay (am_cn 7) tb_T7 2, u_lay (am_cn 7) tb_T7 3, u_lay (am_cn 7) tb_T7 4, u_lay (am_cn 7) tb_T7 5, u_lay (am_cn 7) tb_T7 6, u_lay (am_cn 7) tb_T7 7, u_lay (am_cn 7) tb_T7 8, u_lay (am_cn 7) tb_T7 9] : List Cond), w ∈ am_tbl
  exact List.forall_mem_cons.mpr ⟨(tb_1 196 rfl rfl), List.forall_mem_cons.mpr ⟨(tb_1 198 rfl rfl), List.forall_mem_cons.mpr ⟨(tb_1 200 rfl rfl), List.forall_mem_cons.mpr ⟨(tb_1 202 rfl rfl), List.forall_mem_cons.mpr ⟨(tb_1 204 rfl rfl), List.forall_mem_cons.mpr ⟨(tb_1 206 rfl rfl), List.forall_mem_cons.mpr ⟨(tb_1 208 rfl rfl), List.forall_mem_cons.mpr ⟨(tb_1 210 rfl rfl), List.forall_mem_cons.mpr ⟨(tb_1 212 rfl rfl), List.forall_mem_cons.mpr ⟨(tb_1 214 rfl rfl), fun _ h => (List.not_mem_nil h).elim⟩⟩⟩⟩⟩⟩⟩⟩⟩⟩
set_option maxRecDepth 20000 in
theorem tb_C8 : am_CO 8 := by
  refine ⟨tb_T8, tb_y8, rfl, ?_, by decide +kernel, by decide +kernel, by decide +kernel⟩
  show ∀ w ∈ ([u_lay (am_cn 8) tb_T8 0, u_lay (am_cn 8) tb_T8 1, u_lay (am_cn 8) tb_T8 2, u_lay (am_cn 8) tb_T8 3, u_lay (am_cn 8) tb_T8 4, u_lay (am_cn 8) tb_T8 5, u_lay (am_cn 8) tb_T8 6, u_lay (am_cn 8) tb_T8 7, u_lay (am_cn 8) tb_T8 8, u_lay (am_cn 8) tb_T8 9, u_lay (am_cn 8) tb_T8 10, u_lay (am_cn 8) tb_T8 11, u_lay (am_cn 8) tb_T8 12, u_lay (am_cn 8) tb_T8 13, u_lay (am_cn 8) tb_T8 14, u_lay (am_cn 8) tb_T8 15, u_lay (am_cn 8) tb_T8 16, u_lay (am_cn 8) tb_T8 17, u_lay (am_cn 8) tb_T8 18, u_lay (am_cn 8) tb_T8 19, u_lay (am_cn 8) tb_T8 20, u_lay (am_cn 8) tb_T8 21, u_lay (am_cn 8) tb_T8 22, u_lay (am_cn 8) tb_T8 23, u_lay (am_cn 8) tb_T8 24, u_lay (am_cn 8) tb_T8 25, u_lay (am_cn 8) tb_T8 26, u_lay (am_cn 8) tb_T8 27, u_lay (am_cn 8) tb_T8 28, u_lay (am_cn 8) tb_T8 29, u_lay (am_cn 8) tb_T8 30, u_lay (am_cn 8) tb_T8 31, u_lay (am_cn 8) tb_T8 32, u_lay (am_cn 8) tb_T8 33, u_lay (am_cn 8) tb_T8 34, u_lay (am_cn 8) tb_T8 35] : List Cond), w ∈ am_tbl
  exact List.forall_mem_cons.mpr ⟨(tb_4 24 rfl rfl), List.forall_mem_cons.mpr ⟨(tb_4 26 rfl rfl), List.forall_mem_cons.mpr ⟨(tb_4 28 rfl rfl), List.forall_mem_cons.mpr ⟨(tb_4 30 rfl rfl), List.forall_mem_cons.mpr ⟨(tb_4 32 rfl rfl), List.forall_mem_cons.mpr ⟨(tb_4 34 rfl rfl), List.forall_mem_cons.mpr ⟨(tb_4 36 rfl rfl), List.forall_mem_cons.mpr ⟨(tb_4 38 rfl rfl), List.forall_mem_cons.mpr ⟨(tb_4 40 rfl rfl), List.forall_mem_cons.mpr ⟨(tb_4 42 rfl rfl), List.forall_mem_cons.mpr ⟨(tb_4 44 rfl rfl), List.forall_mem_cons.mpr ⟨(tb_4 46 rfl rfl), List.forall_mem_cons.mpr ⟨(tb_4 48 rfl rfl), List.forall_mem_cons.mpr ⟨(tb_4 50 rfl rfl), List.forall_mem_cons.mpr ⟨(tb_4 52 rfl rfl), List.forall_mem_cons.mpr ⟨(tb_4 54 rfl rfl), List.forall_mem_cons.mpr ⟨(tb_4 56 rfl rfl), List.forall_mem_cons.mpr ⟨(tb_4 58 rfl rfl), List.forall_mem_cons.mpr ⟨(tb_4 60 rfl rfl), List.forall_mem_cons.mpr ⟨(tb_4 62 rfl rfl), List.forall_mem_cons.mpr ⟨(tb_4 64 rfl rfl), List.forall_mem_cons.mpr ⟨(tb_4 66 rfl rfl), List.forall_mem_cons.mpr ⟨(tb_4 68 rfl rfl), List.forall_mem_cons.mpr ⟨(tb_4 70 rfl rfl), List.forall_mem_cons.mpr ⟨(tb_4 72 rfl rfl), List.forall_mem_cons.mpr ⟨(tb_4 74 rfl rfl), List.forall_mem_cons.mpr ⟨(tb_4 76 rfl rfl), List.forall_mem_cons.mpr ⟨(tb_4 78 rfl rfl), List.forall_mem_cons.mpr ⟨(tb_4 80 rfl rfl), List.forall_mem_cons.mpr ⟨(tb_4 82 rfl rfl), List.forall_mem_cons.mpr ⟨(tb_4 84 rfl rfl), List.forall_mem_cons.mpr ⟨(tb_4 86 rfl rfl), List.forall_mem_cons.mpr ⟨(tb_4 88 rfl rfl), List.forall_mem_cons.mpr ⟨(tb_4 90 rfl rfl), List.forall_mem_cons.mpr ⟨(tb_4 92 rfl rfl), List.forall_mem_cons.mpr ⟨(tb_4 94 rfl rfl), fun _ h => (List.not_mem_nil h).elim⟩⟩⟩⟩⟩⟩⟩⟩⟩⟩⟩⟩⟩⟩⟩⟩⟩⟩⟩⟩⟩⟩⟩⟩⟩⟩⟩⟩⟩⟩⟩⟩⟩⟩⟩⟩
theorem lk_0 : am_LK 0 := ⟨(tb_1 20 rfl rfl), (tb_1 1 rfl rfl), ⟨by decide +kernel, by decide +kernel⟩, by decide +kernel, rfl⟩
theorem lk_1 : am_LK 1 := ⟨(tb_1 220 rfl rfl), (tb_1 1 rfl rfl), ⟨by decide +kernel, by decide +kernel⟩, by decide +kernel, rfl⟩
theorem lk_2 : am_LK 2 := ⟨(tb_3 145 rfl rfl), (tb_1 1 rfl rfl), ⟨by decide +kernel, by decide +kernel⟩, by decide +kernel, rfl⟩
theorem lk_3 : am_LK 3 := ⟨(tb_1 236 rfl rfl), (tb_1 1 rfl rfl), ⟨by decide +kernel, by decide +kernel⟩, by decide +kernel, rfl⟩
theorem lk_4 : am_LK 4 := ⟨(tb_2 20 rfl rfl), (tb_1 1 rfl rfl), ⟨by decide +kernel, by decide +kernel⟩, by decide +kernel, rfl⟩
theorem lk_5 : am_LK 5 := ⟨(tb_2 41 rfl rfl), (tb_1 1 rfl rfl), ⟨by decide +kernel, by decide +kernel⟩, by decide +kernel, rfl⟩
theorem lk_6 : am_LK 6 := ⟨(tb_2 221 rfl rfl), (tb_1 1 rfl rfl), ⟨by decide +kernel, by decide +kernel⟩, by decide +kernel, rfl⟩
theorem lk_7 : am_LK 7 := ⟨(tb_2 232 rfl rfl), (tb_1 1 rfl rfl), ⟨by decide +kernel, by decide +kernel⟩, by decide +kernel, rfl⟩
theorem lk_8 : am_LK 8 := ⟨(tb_3 5 rfl rfl), (tb_1 1 rfl rfl), ⟨by decide +kernel, by decide +kernel⟩, by decide +kernel, rfl⟩
theorem lk_9 : am_LK 9 := ⟨(tb_3 42 rfl rfl), (tb_1 1 rfl rfl), ⟨by decide +kernel, by decide +kernel⟩, by decide +kernel, rfl⟩
theorem lk_10 : am_LK 10 := ⟨(tb_3 55 rfl rfl), (tb_1 1 rfl rfl), ⟨by decide +kernel, by decide +kernel⟩, by decide +kernel, rfl⟩
theorem lk_11 : am_LK 11 := ⟨(tb_3 78 rfl rfl), (tb_1 1 rfl rfl), ⟨by decide +kernel, by decide +kernel⟩, by decide +kernel, rfl⟩
theorem lk_12 : am_LK 12 := ⟨(tb_3 97 rfl rfl), (tb_1 1 rfl rfl), ⟨by decide +kernel, by decide +kernel⟩, by decide +kernel, rfl⟩
theorem lk_13 : am_LK 13 := ⟨(tb_3 129 rfl rfl), (tb_1 1 rfl rfl), ⟨by decide +kernel, by decide +kernel⟩, by decide +kernel, rfl⟩
theorem lk_14 : am_LK 14 := ⟨(tb_3 133 rfl rfl), (tb_1 1 rfl rfl), ⟨by decide +kernel, by decide +kernel⟩, by decide +kernel, rfl⟩
theorem lk_15 : am_LK 15 := ⟨(tb_1 224 rfl rfl), (tb_1 1 rfl rfl), ⟨by decide +kernel, by decide +kernel⟩, by decide +kernel, rfl⟩
theorem lk_16 : am_LK 16 := ⟨(tb_2 54 rfl rfl), (tb_1 1 rfl rfl), ⟨by decide +kernel, by decide +kernel⟩, by decide +kernel, rfl⟩
theorem lk_17 : am_LK 17 := ⟨(tb_2 213 rfl rfl), (tb_1 1 rfl rfl), ⟨by decide +kernel, by decide +kernel⟩, by decide +kernel, rfl⟩
theorem lk_18 : am_LK 18 := ⟨(tb_3 59 rfl rfl), (tb_1 1 rfl rfl), ⟨by decide +kernel, by decide +kernel⟩, by decide +kernel, rfl⟩
theorem lk_19 : am_LK 19 := ⟨(tb_3 16 rfl rfl), (tb_1 1 rfl rfl), ⟨by decide +kernel, by decide +kernel⟩, by decide +kernel, rfl⟩
theorem lk_20 : am_LK 20 := ⟨(tb_3 24 rfl rfl), (tb_1 1 rfl rfl), ⟨by decide +kernel, by decide +kernel⟩, by decide +kernel, rfl⟩
theorem lk_21 : am_LK 21 := ⟨(tb_3 82 rfl rfl), (tb_1 1 rfl rfl), ⟨by decide +kernel, by decide +kernel⟩, by decide +kernel, rfl⟩
theorem lk_22 : am_LK 22 := ⟨(tb_3 12 rfl rfl), (tb_1 1 rfl rfl), ⟨by decide +kernel, by decide +kernel⟩, by decide +kernel, rfl⟩
theorem lk_23 : am_LK 23 := ⟨(tb_3 35 rfl rfl), (tb_1 1 rfl rfl), ⟨by decide +kernel, by decide +kernel⟩, by decide +kernel, rfl⟩
theorem lk_24 : am_LK 24 := ⟨(tb_3 225 rfl rfl), (tb_1 9 rfl rfl), ⟨by decide +kernel, by decide +kernel⟩, by decide +kernel, rfl⟩
theorem lk_25 : am_LK 25 := ⟨(tb_4 101 rfl rfl), (tb_1 9 rfl rfl), ⟨by decide +kernel, by decide +kernel⟩, by decide +kernel, rfl⟩
theorem lk_26 : am_LK 26 := ⟨(tb_4 115 rfl rfl), (tb_1 9 rfl rfl), ⟨by decide +kernel, by decide +kernel⟩, by decide +kernel, rfl⟩
theorem lk_27 : am_LK 27 := ⟨(tb_4 126 rfl rfl), (tb_1 9 rfl rfl), ⟨by decide +kernel, by decide +kernel⟩, by decide +kernel, rfl⟩
theorem lk_28 : am_LK 28 := ⟨(tb_4 105 rfl rfl), (tb_1 9 rfl rfl), ⟨by decide +kernel, by decide +kernel⟩, by decide +kernel, rfl⟩
theorem lk_29 : am_LK 29 := ⟨(tb_4 111 rfl rfl), (tb_1 9 rfl rfl), ⟨by decide +kernel, by decide +kernel⟩, by decide +kernel, rfl⟩
theorem lk_30 : am_LK 30 := ⟨(tb_4 122 rfl rfl), (tb_1 9 rfl rfl), ⟨by decide +kernel, by decide +kernel⟩, by decide +kernel, rfl⟩
theorem lk_31 : am_LK 31 := ⟨(tb_4 130 rfl rfl), (tb_1 9 rfl rfl), ⟨by decide +kernel, by decide +kernel⟩, by decide +kernel, rfl⟩
theorem lk_32 : am_LK 32 := ⟨(tb_4 135 rfl rfl), (tb_1 9 rfl rfl), ⟨by decide +kernel, by decide +kernel⟩, by decide +kernel, rfl⟩
theorem lk_33 : am_LK 33 := ⟨(tb_4 176 rfl rfl), (tb_1 9 rfl rfl), ⟨by decide +kernel, by decide +kernel⟩, by decide +kernel, rfl⟩
theorem lk_34 : am_LK 34 := ⟨(tb_4 160 rfl rfl), (tb_1 9 rfl rfl), ⟨by decide +kernel, by decide +kernel⟩, by decide +kernel, rfl⟩
theorem lk_35 : am_LK 35 := ⟨(tb_4 152 rfl rfl), (tb_1 9 rfl rfl), ⟨by decide +kernel, by decide +kernel⟩, by decide +kernel, rfl⟩
theorem lk_36 : am_LK 36 := ⟨(tb_4 168 rfl rfl), (tb_1 9 rfl rfl), ⟨by decide +kernel, by decide +kernel⟩, by decide +kernel, rfl⟩
theorem lk_37 : am_LK 37 := ⟨(tb_4 156 rfl rfl), (tb_1 9 rfl rfl), ⟨by decide +kernel, by decide +kernel⟩, by decide +kernel, rfl⟩
theorem lk_38 : am_LK 38 := ⟨(tb_4 172 rfl rfl), (tb_1 9 rfl rfl), ⟨by decide +kernel, by decide +kernel⟩, by decide +kernel, rfl⟩
theorem lk_39 : am_LK 39 := ⟨(tb_4 164 rfl rfl), (tb_1 9 rfl rfl), ⟨by decide +kernel, by decide +kernel⟩, by decide +kernel, rfl⟩
theorem lk_40 : am_LK 40 := ⟨(tb_4 148 rfl rfl), (tb_1 9 rfl rfl), ⟨by decide +kernel, by decide +kernel⟩, by decide +kernel, rfl⟩
theorem lk_41 : am_LK 41 := ⟨(tb_4 188 rfl rfl), (tb_1 9 rfl rfl), ⟨by decide +kernel, by decide +kernel⟩, by decide +kernel, rfl⟩
theorem lk_42 : am_LK 42 := ⟨(tb_4 192 rfl rfl), (tb_1 9 rfl rfl), ⟨by decide +kernel, by decide +kernel⟩, by decide +kernel, rfl⟩
theorem lk_43 : am_LK 43 := ⟨(tb_4 144 rfl rfl), (tb_1 9 rfl rfl), ⟨by decide +kernel, by decide +kernel⟩, by decide +kernel, rfl⟩
theorem lk_44 : am_LK 44 := ⟨(tb_4 184 rfl rfl), (tb_1 9 rfl rfl), ⟨by decide +kernel, by decide +kernel⟩, by decide +kernel, rfl⟩
theorem lk_45 : am_LK 45 := ⟨(tb_4 180 rfl rfl), (tb_1 9 rfl rfl), ⟨by decide +kernel, by decide +kernel⟩, by decide +kernel, rfl⟩
theorem lk_46 : am_LK 46 := ⟨(tb_4 196 rfl rfl), (tb_1 9 rfl rfl), ⟨by decide +kernel, by decide +kernel⟩, by decide +kernel, rfl⟩
theorem lk_47 : am_LK 47 := ⟨(tb_4 139 rfl rfl), (tb_1 9 rfl rfl), ⟨by decide +kernel, by decide +kernel⟩, by decide +kernel, rfl⟩
theorem lk_48 : am_LK 48 := ⟨(tb_4 204 rfl rfl), (tb_1 9 rfl rfl), ⟨by decide +kernel, by decide +kernel⟩, by decide +kernel, rfl⟩
theorem lk_49 : am_LK 49 := ⟨(tb_4 200 rfl rfl), (tb_1 9 rfl rfl), ⟨by decide +kernel, by decide +kernel⟩, by decide +kernel, rfl⟩
theorem lk_50 : am_LK 50 := ⟨(tb_4 208 rfl rfl), (tb_1 9 rfl rfl), ⟨by decide +kernel, by decide +kernel⟩, by decide +kernel, rfl⟩
theorem lk_51 : am_LK 51 := ⟨(tb_4 212 rfl rfl), (tb_1 9 rfl rfl), ⟨by decide +kernel, by decide +kernel⟩, by decide +kernel, rfl⟩
theorem lk_52 : am_LK 52 := ⟨(tb_4 216 rfl rfl), (tb_1 9 rfl rfl), ⟨by decide +kernel, by decide +kernel⟩, by decide +kernel, rfl⟩
theorem lk_53 : am_LK 53 := ⟨(tb_4 220 rfl rfl), (tb_1 9 rfl rfl), ⟨by decide +kernel, by decide +kernel⟩, by decide +kernel, rfl⟩
theorem lk_54 : am_LK 54 := ⟨(tb_4 230 rfl rfl), (tb_1 9 rfl rfl), ⟨by decide +kernel, by decide +kernel⟩, by decide +kernel, rfl⟩
theorem lk_55 : am_LK 55 := ⟨(tb_4 234 rfl rfl), (tb_1 9 rfl rfl), ⟨by decide +kernel, by decide +kernel⟩, by decide +kernel, rfl⟩
theorem lk_56 : am_LK 56 := ⟨(tb_4 226 rfl rfl), (tb_1 9 rfl rfl), ⟨by decide +kernel, by decide +kernel⟩, by decide +kernel, rfl⟩
theorem lk_57 : am_LK 57 := ⟨(tb_5 3 rfl rfl), (tb_1 9 rfl rfl), ⟨by decide +kernel, by decide +kernel⟩, by decide +kernel, rfl⟩
theorem lk_58 : am_LK 58 := ⟨(tb_5 0 rfl rfl), (tb_1 9 rfl rfl), ⟨by decide +kernel, by decide +kernel⟩, by decide +kernel, rfl⟩
theorem lk_59 : am_LK 59 := ⟨(tb_5 7 rfl rfl), (tb_1 9 rfl rfl), ⟨by decide +kernel, by decide +kernel⟩, by decide +kernel, rfl⟩
theorem lk_60 : am_LK 60 := ⟨(tb_1 89 rfl rfl), (tb_1 5 rfl rfl), ⟨by decide +kernel, by decide +kernel⟩, by decide +kernel, rfl⟩
theorem lk_61 : am_LK 61 := ⟨(tb_2 115 rfl rfl), (tb_1 5 rfl rfl), ⟨by decide +kernel, by decide +kernel⟩, by decide +kernel, rfl⟩
theorem lk_62 : am_LK 62 := ⟨(tb_2 141 rfl rfl), (tb_1 5 rfl rfl), ⟨by decide +kernel, by decide +kernel⟩, by decide +kernel, rfl⟩
theorem lk_63 : am_LK 63 := ⟨(tb_2 121 rfl rfl), (tb_1 5 rfl rfl), ⟨by decide +kernel, by decide +kernel⟩, by decide +kernel, rfl⟩
theorem lk_64 : am_LK 64 := ⟨(tb_2 129 rfl rfl), (tb_1 5 rfl rfl), ⟨by decide +kernel, by decide +kernel⟩, by decide +kernel, rfl⟩
theorem lk_65 : am_LK 65 := ⟨(tb_2 125 rfl rfl), (tb_1 5 rfl rfl), ⟨by decide +kernel, by decide +kernel⟩, by decide +kernel, rfl⟩
theorem lk_66 : am_LK 66 := ⟨(tb_2 133 rfl rfl), (tb_1 5 rfl rfl), ⟨by decide +kernel, by decide +kernel⟩, by decide +kernel, rfl⟩
theorem lk_67 : am_LK 67 := ⟨(tb_3 85 rfl rfl), (tb_1 15 rfl rfl), ⟨by decide +kernel, by decide +kernel⟩, by decide +kernel, rfl⟩
theorem lk_68 : am_LK 68 := ⟨(tb_3 31 rfl rfl), (tb_1 15 rfl rfl), ⟨by decide +kernel, by decide +kernel⟩, by decide +kernel, rfl⟩
theorem lk_69 : am_LK 69 := ⟨(tb_3 38 rfl rfl), (tb_1 15 rfl rfl), ⟨by decide +kernel, by decide +kernel⟩, by decide +kernel, rfl⟩
theorem lk_70 : am_LK 70 := ⟨(tb_1 158 rfl rfl), (tb_1 7 rfl rfl), ⟨by decide +kernel, by decide +kernel⟩, by decide +kernel, rfl⟩
theorem lk_71 : am_LK 71 := ⟨(tb_3 137 rfl rfl), (tb_1 7 rfl rfl), ⟨by decide +kernel, by decide +kernel⟩, by decide +kernel, rfl⟩
theorem lk_72 : am_LK 72 := ⟨(tb_1 145 rfl rfl), (tb_1 6 rfl rfl), ⟨by decide +kernel, by decide +kernel⟩, by decide +kernel, rfl⟩
theorem lk_73 : am_LK 73 := ⟨(tb_3 101 rfl rfl), (tb_1 6 rfl rfl), ⟨by decide +kernel, by decide +kernel⟩, by decide +kernel, rfl⟩
theorem lk_74 : am_LK 74 := ⟨(tb_3 109 rfl rfl), (tb_1 6 rfl rfl), ⟨by decide +kernel, by decide +kernel⟩, by decide +kernel, rfl⟩
theorem lk_75 : am_LK 75 := ⟨(tb_3 105 rfl rfl), (tb_1 6 rfl rfl), ⟨by decide +kernel, by decide +kernel⟩, by decide +kernel, rfl⟩
theorem lk_76 : am_LK 76 := ⟨(tb_3 113 rfl rfl), (tb_1 6 rfl rfl), ⟨by decide +kernel, by decide +kernel⟩, by decide +kernel, rfl⟩
theorem lk_77 : am_LK 77 := ⟨(tb_3 118 rfl rfl), (tb_1 6 rfl rfl), ⟨by decide +kernel, by decide +kernel⟩, by decide +kernel, rfl⟩
theorem lk_78 : am_LK 78 := ⟨(tb_3 122 rfl rfl), (tb_1 6 rfl rfl), ⟨by decide +kernel, by decide +kernel⟩, by decide +kernel, rfl⟩
theorem lk_79 : am_LK 79 := ⟨(tb_3 125 rfl rfl), (tb_1 6 rfl rfl), ⟨by decide +kernel, by decide +kernel⟩, by decide +kernel, rfl⟩
theorem lk_80 : am_LK 80 := ⟨(tb_1 28 rfl rfl), (tb_1 2 rfl rfl), ⟨by decide +kernel, by decide +kernel⟩, by decide +kernel, rfl⟩
theorem lk_81 : am_LK 81 := ⟨(tb_2 62 rfl rfl), (tb_1 2 rfl rfl), ⟨by decide +kernel, by decide +kernel⟩, by decide +kernel, rfl⟩
theorem lk_82 : am_LK 82 := ⟨(tb_2 24 rfl rfl), (tb_1 2 rfl rfl), ⟨by decide +kernel, by decide +kernel⟩, by decide +kernel, rfl⟩
theorem lk_83 : am_LK 83 := ⟨(tb_1 228 rfl rfl), (tb_1 2 rfl rfl), ⟨by decide +kernel, by decide +kernel⟩, by decide +kernel, rfl⟩
theorem lk_84 : am_LK 84 := ⟨(tb_1 232 rfl rfl), (tb_1 2 rfl rfl), ⟨by decide +kernel, by decide +kernel⟩, by decide +kernel, rfl⟩
theorem lk_85 : am_LK 85 := ⟨(tb_3 20 rfl rfl), (tb_1 2 rfl rfl), ⟨by decide +kernel, by decide +kernel⟩, by decide +kernel, rfl⟩
theorem lk_86 : am_LK 86 := ⟨(tb_3 28 rfl rfl), (tb_1 2 rfl rfl), ⟨by decide +kernel, by decide +kernel⟩, by decide +kernel, rfl⟩
theorem lk_87 : am_LK 87 := ⟨(tb_2 208 rfl rfl), (tb_1 2 rfl rfl), ⟨by decide +kernel, by decide +kernel⟩, by decide +kernel, rfl⟩
theorem lk_88 : am_LK 88 := ⟨(tb_2 29 rfl rfl), (tb_1 2 rfl rfl), ⟨by decide +kernel, by decide +kernel⟩, by decide +kernel, rfl⟩
theorem lk_89 : am_LK 89 := ⟨(tb_2 37 rfl rfl), (tb_1 2 rfl rfl), ⟨by decide +kernel, by decide +kernel⟩, by decide +kernel, rfl⟩
theorem lk_90 : am_LK 90 := ⟨(tb_2 66 rfl rfl), (tb_1 2 rfl rfl), ⟨by decide +kernel, by decide +kernel⟩, by decide +kernel, rfl⟩
theorem lk_91 : am_LK 91 := ⟨(tb_2 33 rfl rfl), (tb_1 2 rfl rfl), ⟨by decide +kernel, by decide +kernel⟩, by decide +kernel, rfl⟩
theorem lk_92 : am_LK 92 := ⟨(tb_1 48 rfl rfl), (tb_1 3 rfl rfl), ⟨by decide +kernel, by decide +kernel⟩, by decide +kernel, rfl⟩
theorem lk_93 : am_LK 93 := ⟨(tb_2 75 rfl rfl), (tb_1 3 rfl rfl), ⟨by decide +kernel, by decide +kernel⟩, by decide +kernel, rfl⟩
theorem lk_94 : am_LK 94 := ⟨(tb_2 0 rfl rfl), (tb_1 3 rfl rfl), ⟨by decide +kernel, by decide +kernel⟩, by decide +kernel, rfl⟩
theorem lk_95 : am_LK 95 := ⟨(tb_3 150 rfl rfl), (tb_1 3 rfl rfl), ⟨by decide +kernel, by decide +kernel⟩, by decide +kernel, rfl⟩
theorem lk_96 : am_LK 96 := ⟨(tb_3 220 rfl rfl), (tb_1 3 rfl rfl), ⟨by decide +kernel, by decide +kernel⟩, by decide +kernel, rfl⟩
theorem lk_97 : am_LK 97 := ⟨(tb_2 50 rfl rfl), (tb_1 3 rfl rfl), ⟨by decide +kernel, by decide +kernel⟩, by decide +kernel, rfl⟩
theorem lk_98 : am_LK 98 := ⟨(tb_2 4 rfl rfl), (tb_1 3 rfl rfl), ⟨by decide +kernel, by decide +kernel⟩, by decide +kernel, rfl⟩
theorem lk_99 : am_LK 99 := ⟨(tb_2 8 rfl rfl), (tb_1 3 rfl rfl), ⟨by decide +kernel, by decide +kernel⟩, by decide +kernel, rfl⟩
theorem lk_100 : am_LK 100 := ⟨(tb_2 85 rfl rfl), (tb_1 3 rfl rfl), ⟨by decide +kernel, by decide +kernel⟩, by decide +kernel, rfl⟩
theorem lk_101 : am_LK 101 := ⟨(tb_2 90 rfl rfl), (tb_1 3 rfl rfl), ⟨by decide +kernel, by decide +kernel⟩, by decide +kernel, rfl⟩
theorem lk_102 : am_LK 102 := ⟨(tb_2 12 rfl rfl), (tb_1 3 rfl rfl), ⟨by decide +kernel, by decide +kernel⟩, by decide +kernel, rfl⟩
theorem lk_103 : am_LK 103 := ⟨(tb_2 16 rfl rfl), (tb_1 3 rfl rfl), ⟨by decide +kernel, by decide +kernel⟩, by decide +kernel, rfl⟩
theorem lk_104 : am_LK 104 := ⟨(tb_3 47 rfl rfl), (tb_1 3 rfl rfl), ⟨by decide +kernel, by decide +kernel⟩, by decide +kernel, rfl⟩
theorem lk_105 : am_LK 105 := ⟨(tb_3 51 rfl rfl), (tb_1 3 rfl rfl), ⟨by decide +kernel, by decide +kernel⟩, by decide +kernel, rfl⟩
theorem lk_106 : am_LK 106 := ⟨(tb_2 79 rfl rfl), (tb_1 3 rfl rfl), ⟨by decide +kernel, by decide +kernel⟩, by decide +kernel, rfl⟩
theorem lk_107 : am_LK 107 := ⟨(tb_1 171 rfl rfl), (tb_1 8 rfl rfl), ⟨by decide +kernel, by decide +kernel⟩, by decide +kernel, rfl⟩
theorem lk_108 : am_LK 108 := ⟨(tb_2 236 rfl rfl), (tb_1 8 rfl rfl), ⟨by decide +kernel, by decide +kernel⟩, by decide +kernel, rfl⟩
theorem lk_109 : am_LK 109 := ⟨(tb_2 217 rfl rfl), (tb_1 8 rfl rfl), ⟨by decide +kernel, by decide +kernel⟩, by decide +kernel, rfl⟩
theorem lk_110 : am_LK 110 := ⟨(tb_3 0 rfl rfl), (tb_1 8 rfl rfl), ⟨by decide +kernel, by decide +kernel⟩, by decide +kernel, rfl⟩
theorem lk_111 : am_LK 111 := ⟨(tb_2 225 rfl rfl), (tb_1 8 rfl rfl), ⟨by decide +kernel, by decide +kernel⟩, by decide +kernel, rfl⟩
theorem lk_112 : am_LK 112 := ⟨(tb_2 99 rfl rfl), (tb_1 8 rfl rfl), ⟨by decide +kernel, by decide +kernel⟩, by decide +kernel, rfl⟩
theorem lk_113 : am_LK 113 := ⟨(tb_2 183 rfl rfl), (tb_1 8 rfl rfl), ⟨by decide +kernel, by decide +kernel⟩, by decide +kernel, rfl⟩
theorem lk_114 : am_LK 114 := ⟨(tb_2 103 rfl rfl), (tb_1 8 rfl rfl), ⟨by decide +kernel, by decide +kernel⟩, by decide +kernel, rfl⟩
theorem lk_115 : am_LK 115 := ⟨(tb_3 93 rfl rfl), (tb_1 8 rfl rfl), ⟨by decide +kernel, by decide +kernel⟩, by decide +kernel, rfl⟩
theorem lk_116 : am_LK 116 := ⟨(tb_3 73 rfl rfl), (tb_1 8 rfl rfl), ⟨by decide +kernel, by decide +kernel⟩, by decide +kernel, rfl⟩
theorem lk_117 : am_LK 117 := ⟨(tb_1 83 rfl rfl), (tb_1 4 rfl rfl), ⟨by decide +kernel, by decide +kernel⟩, by decide +kernel, rfl⟩
theorem lk_118 : am_LK 118 := ⟨(tb_2 46 rfl rfl), (tb_1 4 rfl rfl), ⟨by decide +kernel, by decide +kernel⟩, by decide +kernel, rfl⟩
theorem lk_119 : am_LK 119 := ⟨(tb_2 58 rfl rfl), (tb_1 4 rfl rfl), ⟨by decide +kernel, by decide +kernel⟩, by decide +kernel, rfl⟩
theorem lk_120 : am_LK 120 := ⟨(tb_2 95 rfl rfl), (tb_1 4 rfl rfl), ⟨by decide +kernel, by decide +kernel⟩, by decide +kernel, rfl⟩
theorem lk_121 : am_LK 121 := ⟨(tb_3 63 rfl rfl), (tb_1 4 rfl rfl), ⟨by decide +kernel, by decide +kernel⟩, by decide +kernel, rfl⟩
theorem lk_122 : am_LK 122 := ⟨(tb_2 187 rfl rfl), (tb_1 4 rfl rfl), ⟨by decide +kernel, by decide +kernel⟩, by decide +kernel, rfl⟩
theorem lk_123 : am_LK 123 := ⟨(tb_2 111 rfl rfl), (tb_1 4 rfl rfl), ⟨by decide +kernel, by decide +kernel⟩, by decide +kernel, rfl⟩
theorem lk_124 : am_LK 124 := ⟨(tb_2 137 rfl rfl), (tb_1 4 rfl rfl), ⟨by decide +kernel, by decide +kernel⟩, by decide +kernel, rfl⟩
theorem lk_125 : am_LK 125 := ⟨(tb_2 149 rfl rfl), (tb_1 4 rfl rfl), ⟨by decide +kernel, by decide +kernel⟩, by decide +kernel, rfl⟩
theorem lk_126 : am_LK 126 := ⟨(tb_2 107 rfl rfl), (tb_1 4 rfl rfl), ⟨by decide +kernel, by decide +kernel⟩, by decide +kernel, rfl⟩
theorem lk_127 : am_LK 127 := ⟨(tb_2 145 rfl rfl), (tb_1 4 rfl rfl), ⟨by decide +kernel, by decide +kernel⟩, by decide +kernel, rfl⟩
theorem lk_128 : am_LK 128 := ⟨(tb_2 156 rfl rfl), (tb_1 4 rfl rfl), ⟨by decide +kernel, by decide +kernel⟩, by decide +kernel, rfl⟩
theorem lk_129 : am_LK 129 := ⟨(tb_2 171 rfl rfl), (tb_1 4 rfl rfl), ⟨by decide +kernel, by decide +kernel⟩, by decide +kernel, rfl⟩
theorem lk_130 : am_LK 130 := ⟨(tb_2 175 rfl rfl), (tb_1 4 rfl rfl), ⟨by decide +kernel, by decide +kernel⟩, by decide +kernel, rfl⟩
theorem lk_131 : am_LK 131 := ⟨(tb_2 160 rfl rfl), (tb_1 4 rfl rfl), ⟨by decide +kernel, by decide +kernel⟩, by decide +kernel, rfl⟩
theorem lk_132 : am_LK 132 := ⟨(tb_2 164 rfl rfl), (tb_1 4 rfl rfl), ⟨by decide +kernel, by decide +kernel⟩, by decide +kernel, rfl⟩
theorem lk_133 : am_LK 133 := ⟨(tb_2 179 rfl rfl), (tb_1 4 rfl rfl), ⟨by decide +kernel, by decide +kernel⟩, by decide +kernel, rfl⟩
theorem lk_134 : am_LK 134 := ⟨(tb_3 69 rfl rfl), (tb_1 4 rfl rfl), ⟨by decide +kernel, by decide +kernel⟩, by decide +kernel, rfl⟩
theorem lk_135 : am_LK 135 := ⟨(tb_2 191 rfl rfl), (tb_1 4 rfl rfl), ⟨by decide +kernel, by decide +kernel⟩, by decide +kernel, rfl⟩
theorem lk_136 : am_LK 136 := ⟨(tb_2 200 rfl rfl), (tb_1 4 rfl rfl), ⟨by decide +kernel, by decide +kernel⟩, by decide +kernel, rfl⟩
theorem lk_137 : am_LK 137 := ⟨(tb_2 195 rfl rfl), (tb_1 4 rfl rfl), ⟨by decide +kernel, by decide +kernel⟩, by decide +kernel, rfl⟩
theorem lk_138 : am_LK 138 := ⟨(tb_2 204 rfl rfl), (tb_1 4 rfl rfl), ⟨by decide +kernel, by decide +kernel⟩, by decide +kernel, rfl⟩
theorem lk_all : ∀ k, k < am_lst → am_LK k := by
  intro k hk
  match k, hk with
  | 0, _ => exact lk_0
  | 1, _ => exact lk_1
  | 2, _ => exact lk_2
  | 3, _ => exact lk_3
  | 4, _ => exact lk_4
  | 5, _ => exact lk_5
  | 6, _ => exact lk_6
  | 7, _ => exact lk_7
  | 8, _ => exact lk_8
  | 9, _ => exact lk_9
  | 10, _ => exact lk_10
  | 11, _ => exact lk_11
  | 12, _ => exact lk_12
  | 13, _ => exact lk_13
  | 14, _ => exact lk_14
  | 15, _ => exact lk_15
  | 16, _ => exact lk_16
  | 17, _ => exact lk_17
  | 18, _ => exact lk_18
  | 19, _ => exact lk_19
  | 20, _ => exact lk_20
  | 21, _ => exact lk_21
  | 22, _ => exact lk_22
  | 23, _ => exact lk_23
  | 24, _ => exact lk_24
  | 25, _ => exact lk_25
  | 26, _ => exact lk_26
  | 27, _ => exact lk_27
  | 28, _ => exact lk_28
  | 29, _ => exact lk_29
  | 30, _ => exact lk_30
  | 31, _ => exact lk_31
  | 32, _ => exact lk_32
  | 33, _ => exact lk_33
  | 34, _ => exact lk_34
  | 35, _ => exact lk_35
  | 36, _ => exact lk_36
  | 37, _ => exact lk_37
  | 38, _ => exact lk_38
  | 39, _ => exact lk_39
  | 40, _ => exact lk_40
  | 41, _ => exact lk_41
  | 42, _ => exact lk_42
  | 43, _ => exact lk_43
  | 44, _ => exact lk_44
  | 45, _ => exact lk_45
  | 46, _ => exact lk_46
  | 47, _ => exact lk_47
  | 48, _ => exact lk_48
  | 49, _ => exact lk_49
  | 50, _ => exact lk_50
  | 51, _ => exact lk_51
  | 52, _ => exact lk_52
  | 53, _ => exact lk_53
  | 54, _ => exact lk_54
  | 55, _ => exact lk_55
  | 56, _ => exact lk_56
  | 57, _ => exact lk_57
  | 58, _ => exact lk_58
  | 59, _ => exact lk_59
  | 60, _ => exact lk_60
  | 61, _ => exact lk_61
  | 62, _ => exact lk_62
  | 63, _ => exact lk_63
  | 64, _ => exact lk_64
  | 65, _ => exact lk_65
  | 66, _ => exact lk_66
  | 67, _ => exact lk_67
  | 68, _ => exact lk_68
  | 69, _ => exact lk_69
  | 70, _ => exact lk_70
  | 71, _ => exact lk_71
  | 72, _ => exact lk_72
  | 73, _ => exact lk_73
  | 74, _ => exact lk_74
  | 75, _ => exact lk_75
  | 76, _ => exact lk_76
  | 77, _ => exact lk_77
  | 78, _ => exact lk_78
  | 79, _ => exact lk_79
  | 80, _ => exact lk_80
  | 81, _ => exact lk_81
  | 82, _ => exact lk_82
  | 83, _ => exact lk_83
  | 84, _ => exact lk_84
  | 85, _ => exact lk_85
  | 86, _ => exact lk_86
  | 87, _ => exact lk_87
  | 88, _ => exact lk_88
  | 89, _ => exact lk_89
  | 90, _ => exact lk_90
  | 91, _ => exact lk_91
  | 92, _ => exact lk_92
  | 93, _ => exact lk_93
  | 94, _ => exact lk_94
  | 95, _ => exact lk_95
  | 96, _ => exact lk_96
  | 97, _ => exact lk_97
  | 98, _ => exact lk_98
  | 99, _ => exact lk_99
  | 100, _ => exact lk_100
  | 101, _ => exact lk_101
  | 102, _ => exact lk_102
  | 103, _ => exact lk_103
  | 104, _ => exact lk_104
  | 105, _ => exact lk_105
  | 106, _ => exact lk_106
  | 107, _ => exact lk_107
  | 108, _ => exact lk_108
  | 109, _ => exact lk_109
  | 110, _ => exact lk_110
  | 111, _ => exact lk_111
  | 112, _ => exact lk_112
  | 113, _ => exact lk_113
  | 114, _ => exact lk_114
  | 115, _ => exact lk_115
  | 116, _ => exact lk_116
  | 117, _ => exact lk_117
  | 118, _ => exact lk_118
  | 119, _ => exact lk_119
  | 120, _ => exact lk_120
  | 121, _ => exact lk_121
  | 122, _ => exact lk_122
  | 123, _ => exact lk_123
  | 124, _ => exact lk_124
  | 125, _ => exact lk_125
  | 126, _ => exact lk_126
  | 127, _ => exact lk_127
  | 128, _ => exact lk_128
  | 129, _ => exact lk_129
  | 130, _ => exact lk_130
  | 131, _ => exact lk_131
  | 132, _ => exact lk_132
  | 133, _ => exact lk_133
  | 134, _ => exact lk_134
  | 135, _ => exact lk_135
  | 136, _ => exact lk_136
  | 137, _ => exact lk_137
  | 138, _ => exact lk_138
  | k + 139, h => exact absurd h (by have : am_lst = 139 := rfl; omega)
theorem fo_0_11 : am_FO 0 11 0 0 := by
  refine ⟨by decide +kernel, tb_C0, fun T n h => ?_⟩
  cases h
  exact (tb_1 91 rfl rfl)
theorem fo_0_15 : am_FO 0 15 0 1 := by
  refine ⟨by decide +kernel, tb_C0, fun T n h => ?_⟩
  cases h
  exact (tb_1 92 rfl rfl)
theorem fo_0_19 : am_FO 0 19 0 2 := by
  refine ⟨by decide +kernel, tb_C0, fun T n h => ?_⟩
  cases h
  exact (tb_1 93 rfl rfl)
theorem fo_0_22 : am_FO 0 22 0 3 := by
  refine ⟨by decide +kernel, tb_C0, fun T n h => ?_⟩
  cases h
  exact (tb_1 94 rfl rfl)
theorem fo_1_9 : am_FO 1 9 1 0 := by
  refine ⟨by decide +kernel, tb_C1, fun T n h => ?_⟩
  cases h
  exact (tb_1 160 rfl rfl)
theorem fo_1_13 : am_FO 1 13 1 1 := by
  refine ⟨by decide +kernel, tb_C1, fun T n h => ?_⟩
  cases h
  exact (tb_1 161 rfl rfl)
theorem fo_2_9 : am_FO 2 9 2 0 := by
  refine ⟨by decide +kernel, tb_C2, fun T n h => ?_⟩
  cases h
  exact (tb_1 147 rfl rfl)
theorem fo_2_13 : am_FO 2 13 2 1 := by
  refine ⟨by decide +kernel, tb_C2, fun T n h => ?_⟩
  cases h
  exact (tb_1 148 rfl rfl)
theorem fo_3_9 : am_FO 3 9 3 0 := by
  refine ⟨by decide +kernel, tb_C3, fun T n h => ?_⟩
  cases h
  exact (tb_1 30 rfl rfl)
theorem fo_3_15 : am_FO 3 15 3 1 := by
  refine ⟨by decide +kernel, tb_C3, fun T n h => ?_⟩
  cases h
  exact (tb_1 31 rfl rfl)
theorem fo_3_18 : am_FO 3 18 3 2 := by
  refine ⟨by decide +kernel, tb_C3, fun T n h => ?_⟩
  cases h
  exact (tb_1 32 rfl rfl)
theorem fo_3_21 : am_FO 3 21 3 3 := by
  refine ⟨by decide +kernel, tb_C3, fun T n h => ?_⟩
  cases h
  exact (tb_1 33 rfl rfl)
theorem fo_4_9 : am_FO 4 9 4 0 := by
  refine ⟨by decide +kernel, tb_C4, fun T n h => ?_⟩
  cases h
  exact (tb_1 50 rfl rfl)
theorem fo_4_15 : am_FO 4 15 4 1 := by
  refine ⟨by decide +kernel, tb_C4, fun T n h => ?_⟩
  cases h
  exact (tb_1 51 rfl rfl)
theorem fo_4_18 : am_FO 4 18 4 2 := by
  refine ⟨by decide +kernel, tb_C4, fun T n h => ?_⟩
  cases h
  exact (tb_1 52 rfl rfl)
theorem fo_4_22 : am_FO 4 22 4 3 := by
  refine ⟨by decide +kernel, tb_C4, fun T n h => ?_⟩
  cases h
  exact (tb_1 53 rfl rfl)
theorem fo_4_25 : am_FO 4 25 4 4 := by
  refine ⟨by decide +kernel, tb_C4, fun T n h => ?_⟩
  cases h
  exact (tb_1 54 rfl rfl)
theorem fo_4_28 : am_FO 4 28 4 5 := by
  refine ⟨by decide +kernel, tb_C4, fun T n h => ?_⟩
  cases h
  exact (tb_1 55 rfl rfl)
theorem fo_4_31 : am_FO 4 31 4 6 := by
  refine ⟨by decide +kernel, tb_C4, fun T n h => ?_⟩
  cases h
  exact (tb_1 56 rfl rfl)
theorem fo_4_34 : am_FO 4 34 4 7 := by
  refine ⟨by decide +kernel, tb_C4, fun T n h => ?_⟩
  cases h
  exact (tb_1 57 rfl rfl)
theorem fo_4_37 : am_FO 4 37 4 8 := by
  refine ⟨by decide +kernel, tb_C4, fun T n h => ?_⟩
  cases h
  exact (tb_1 58 rfl rfl)
theorem fo_5_9 : am_FO 5 9 5 0 := by
  refine ⟨by decide +kernel, tb_C5, fun T n h => ?_⟩
  cases h
  exact (tb_1 173 rfl rfl)
theorem fo_5_15 : am_FO 5 15 5 1 := by
  refine ⟨by decide +kernel, tb_C5, fun T n h => ?_⟩
  cases h
  exact (tb_1 174 rfl rfl)
theorem fo_5_19 : am_FO 5 19 5 2 := by
  refine ⟨by decide +kernel, tb_C5, fun T n h => ?_⟩
  cases h
  exact (tb_1 175 rfl rfl)
theorem fo_5_23 : am_FO 5 23 5 3 := by
  refine ⟨by decide +kernel, tb_C5, fun T n h => ?_⟩
  cases h
  exact (tb_1 176 rfl rfl)
theorem fo_6_12 : am_FO 6 12 6 2 := by
  refine ⟨by decide +kernel, tb_C6, fun T n h => ?_⟩
  cases h
  exact (tb_1 106 rfl rfl)
theorem fo_6_18 : am_FO 6 18 6 3 := by
  refine ⟨by decide +kernel, tb_C6, fun T n h => ?_⟩
  cases h
  exact (tb_1 107 rfl rfl)
theorem fo_6_22 : am_FO 6 22 6 4 := by
  refine ⟨by decide +kernel, tb_C6, fun T n h => ?_⟩
  cases h
  exact (tb_1 108 rfl rfl)
theorem fo_6_26 : am_FO 6 26 6 5 := by
  refine ⟨by decide +kernel, tb_C6, fun T n h => ?_⟩
  cases h
  exact (tb_1 109 rfl rfl)
theorem fo_6_29 : am_FO 6 29 6 6 := by
  refine ⟨by decide +kernel, tb_C6, fun T n h => ?_⟩
  cases h
  exact (tb_1 110 rfl rfl)
theorem fo_6_32 : am_FO 6 32 6 7 := by
  refine ⟨by decide +kernel, tb_C6, fun T n h => ?_⟩
  cases h
  exact (tb_1 111 rfl rfl)
theorem fo_6_35 : am_FO 6 35 6 8 := by
  refine ⟨by decide +kernel, tb_C6, fun T n h => ?_⟩
  cases h
  exact (tb_1 112 rfl rfl)
theorem fo_6_39 : am_FO 6 39 6 9 := by
  refine ⟨by decide +kernel, tb_C6, fun T n h => ?_⟩
  cases h
  exact (tb_1 113 rfl rfl)
theorem fo_6_42 : am_FO 6 42 6 10 := by
  refine ⟨by decide +kernel, tb_C6, fun T n h => ?_⟩
  cases h
  exact (tb_1 114 rfl rfl)
theorem fo_6_45 : am_FO 6 45 6 11 := by
  refine ⟨by decide +kernel, tb_C6, fun T n h => ?_⟩
  cases h
  exact (tb_1 115 rfl rfl)
theorem fo_6_48 : am_FO 6 48 6 0 := by
  refine ⟨by decide +kernel, tb_C6, fun T n h => ?_⟩
  cases h
  exact (tb_1 104 rfl rfl)
theorem fo_6_52 : am_FO 6 52 6 1 := by
  refine ⟨by decide +kernel, tb_C6, fun T n h => ?_⟩
  cases h
  exact (tb_1 105 rfl rfl)
theorem fo_7_14 : am_FO 7 14 7 0 := by
  refine ⟨by decide +kernel, tb_C7, fun T n h => ?_⟩
  cases h
  exact (tb_1 186 rfl rfl)
theorem fo_7_21 : am_FO 7 21 7 1 := by
  refine ⟨by decide +kernel, tb_C7, fun T n h => ?_⟩
  cases h
  exact (tb_1 187 rfl rfl)
theorem fo_7_30 : am_FO 7 30 7 2 := by
  refine ⟨by decide +kernel, tb_C7, fun T n h => ?_⟩
  cases h
  exact (tb_1 188 rfl rfl)
theorem fo_7_37 : am_FO 7 37 7 3 := by
  refine ⟨by decide +kernel, tb_C7, fun T n h => ?_⟩
  cases h
  exact (tb_1 189 rfl rfl)
theorem fo_7_44 : am_FO 7 44 7 4 := by
  refine ⟨by decide +kernel, tb_C7, fun T n h => ?_⟩
  cases h
  exact (tb_1 190 rfl rfl)
theorem fo_7_51 : am_FO 7 51 7 5 := by
  refine ⟨by decide +kernel, tb_C7, fun T n h => ?_⟩
  cases h
  exact (tb_1 191 rfl rfl)
theorem fo_7_55 : am_FO 7 55 7 6 := by
  refine ⟨by decide +kernel, tb_C7, fun T n h => ?_⟩
  cases h
  exact (tb_1 192 rfl rfl)
theorem fo_7_58 : am_FO 7 58 7 7 := by
  refine ⟨by decide +kernel, tb_C7, fun T n h => ?_⟩
  cases h
  exact (tb_1 193 rfl rfl)
theorem fo_7_62 : am_FO 7 62 7 8 := by
  refine ⟨by decide +kernel, tb_C7, fun T n h => ?_⟩
  cases h
  exact (tb_1 194 rfl rfl)
theorem fo_7_66 : am_FO 7 66 7 9 := by
  refine ⟨by decide +kernel, tb_C7, fun T n h => ?_⟩
  cases h
  exact (tb_1 195 rfl rfl)
theorem fo_8_7 : am_FO 8 7 8 2 := by
  refine ⟨by decide +kernel, tb_C8, fun T n h => ?_⟩
  cases h
  exact (tb_3 230 rfl rfl)
theorem fo_8_13 : am_FO 8 13 8 3 := by
  refine ⟨by decide +kernel, tb_C8, fun T n h => ?_⟩
  cases h
  exact (tb_3 231 rfl rfl)
theorem fo_8_16 : am_FO 8 16 8 4 := by
  refine ⟨by decide +kernel, tb_C8, fun T n h => ?_⟩
  cases h
  exact (tb_3 232 rfl rfl)
theorem fo_8_19 : am_FO 8 19 8 6 := by
  refine ⟨by decide +kernel, tb_C8, fun T n h => ?_⟩
  cases h
  exact (tb_3 234 rfl rfl)
theorem fo_8_23 : am_FO 8 23 8 7 := by
  refine ⟨by decide +kernel, tb_C8, fun T n h => ?_⟩
  cases h
  exact (tb_3 235 rfl rfl)
theorem fo_8_26 : am_FO 8 26 8 8 := by
  refine ⟨by decide +kernel, tb_C8, fun T n h => ?_⟩
  cases h
  exact (tb_3 236 rfl rfl)
theorem fo_8_29 : am_FO 8 29 8 9 := by
  refine ⟨by decide +kernel, tb_C8, fun T n h => ?_⟩
  cases h
  exact (tb_3 237 rfl rfl)
theorem fo_8_32 : am_FO 8 32 8 10 := by
  refine ⟨by decide +kernel, tb_C8, fun T n h => ?_⟩
  cases h
  exact (tb_3 238 rfl rfl)
theorem fo_8_35 : am_FO 8 35 8 11 := by
  refine ⟨by decide +kernel, tb_C8, fun T n h => ?_⟩
  cases h
  exact (tb_3 239 rfl rfl)
theorem fo_8_38 : am_FO 8 38 8 12 := by
  refine ⟨by decide +kernel, tb_C8, fun T n h => ?_⟩
  cases h
  exact (tb_4 0 rfl rfl)
theorem fo_8_41 : am_FO 8 41 8 13 := by
  refine ⟨by decide +kernel, tb_C8, fun T n h => ?_⟩
  cases h
  exact (tb_4 1 rfl rfl)
theorem fo_8_45 : am_FO 8 45 8 17 := by
  refine ⟨by decide +kernel, tb_C8, fun T n h => ?_⟩
  cases h
  exact (tb_4 5 rfl rfl)
theorem fo_8_49 : am_FO 8 49 8 19 := by
  refine ⟨by decide +kernel, tb_C8, fun T n h => ?_⟩
  cases h
  exact (tb_4 7 rfl rfl)
theorem fo_8_52 : am_FO 8 52 8 20 := by
  refine ⟨by decide +kernel, tb_C8, fun T n h => ?_⟩
  cases h
  exact (tb_4 8 rfl rfl)
theorem fo_8_55 : am_FO 8 55 8 21 := by
  refine ⟨by decide +kernel, tb_C8, fun T n h => ?_⟩
  cases h
  exact (tb_4 9 rfl rfl)
theorem fo_8_58 : am_FO 8 58 8 22 := by
  refine ⟨by decide +kernel, tb_C8, fun T n h => ?_⟩
  cases h
  exact (tb_4 10 rfl rfl)
theorem fo_8_61 : am_FO 8 61 8 24 := by
  refine ⟨by decide +kernel, tb_C8, fun T n h => ?_⟩
  cases h
  exact (tb_4 12 rfl rfl)
theorem fo_8_66 : am_FO 8 66 8 25 := by
  refine ⟨by decide +kernel, tb_C8, fun T n h => ?_⟩
  cases h
  exact (tb_4 13 rfl rfl)
theorem fo_8_70 : am_FO 8 70 8 26 := by
  refine ⟨by decide +kernel, tb_C8, fun T n h => ?_⟩
  cases h
  exact (tb_4 14 rfl rfl)
theorem fo_8_73 : am_FO 8 73 8 28 := by
  refine ⟨by decide +kernel, tb_C8, fun T n h => ?_⟩
  cases h
  exact (tb_4 16 rfl rfl)
theorem fo_8_76 : am_FO 8 76 8 31 := by
  refine ⟨by decide +kernel, tb_C8, fun T n h => ?_⟩
  cases h
  exact (tb_4 19 rfl rfl)
theorem fo_8_79 : am_FO 8 79 8 33 := by
  refine ⟨by decide +kernel, tb_C8, fun T n h => ?_⟩
  cases h
  exact (tb_4 21 rfl rfl)
theorem fo_8_82 : am_FO 8 82 8 0 := by
  refine ⟨by decide +kernel, tb_C8, fun T n h => ?_⟩
  cases h
  exact (tb_3 228 rfl rfl)
theorem fo_8_85 : am_FO 8 85 8 1 := by
  refine ⟨by decide +kernel, tb_C8, fun T n h => ?_⟩
  cases h
  exact (tb_3 229 rfl rfl)
theorem fo_8_88 : am_FO 8 88 8 5 := by
  refine ⟨by decide +kernel, tb_C8, fun T n h => ?_⟩
  cases h
  exact (tb_3 233 rfl rfl)
theorem fo_8_110 : am_FO 8 110 8 14 := by
  refine ⟨by decide +kernel, tb_C8, fun T n h => ?_⟩
  cases h
  exact (tb_4 2 rfl rfl)
theorem fo_8_113 : am_FO 8 113 8 15 := by
  refine ⟨by decide +kernel, tb_C8, fun T n h => ?_⟩
  cases h
  exact (tb_4 3 rfl rfl)
theorem fo_8_131 : am_FO 8 131 8 16 := by
  refine ⟨by decide +kernel, tb_C8, fun T n h => ?_⟩
  cases h
  exact (tb_4 4 rfl rfl)
theorem fo_8_145 : am_FO 8 145 8 18 := by
  refine ⟨by decide +kernel, tb_C8, fun T n h => ?_⟩
  cases h
  exact (tb_4 6 rfl rfl)
theorem fo_8_151 : am_FO 8 151 8 27 := by
  refine ⟨by decide +kernel, tb_C8, fun T n h => ?_⟩
  cases h
  exact (tb_4 15 rfl rfl)
theorem fo_8_154 : am_FO 8 154 8 30 := by
  refine ⟨by decide +kernel, tb_C8, fun T n h => ?_⟩
  cases h
  exact (tb_4 18 rfl rfl)
theorem fo_8_161 : am_FO 8 161 8 29 := by
  refine ⟨by decide +kernel, tb_C8, fun T n h => ?_⟩
  cases h
  exact (tb_4 17 rfl rfl)
theorem fo_8_173 : am_FO 8 173 8 23 := by
  refine ⟨by decide +kernel, tb_C8, fun T n h => ?_⟩
  cases h
  exact (tb_4 11 rfl rfl)
theorem fo_8_207 : am_FO 8 207 8 32 := by
  refine ⟨by decide +kernel, tb_C8, fun T n h => ?_⟩
  cases h
  exact (tb_4 20 rfl rfl)
theorem fo_8_214 : am_FO 8 214 8 35 := by
  refine ⟨by decide +kernel, tb_C8, fun T n h => ?_⟩
  cases h
  exact (tb_4 23 rfl rfl)
theorem fo_8_217 : am_FO 8 217 8 34 := by
  refine ⟨by decide +kernel, tb_C8, fun T n h => ?_⟩
  cases h
  exact (tb_4 22 rfl rfl)
theorem tb_lk {α : Type} {l : List (Nat × α)} {x : Nat} {v : α} (h : l.lookup x = some v) : (x, v) ∈ l := by
  induction l with
  | nil => cases h
  | cons y r ih =>
    obtain ⟨a, b⟩ := y
    rw [List.lookup_cons] at h
    by_cases hy : x = a
    · subst hy
      simp at h
      rw [h]; exact List.mem_cons_self
    · have : (x == a) = false := by simpa using hy
      rw [this] at h
      exact List.mem_cons_of_mem _ (ih h)
set_option maxRecDepth 20000 in
theorem tb_fo : ∀ (own : Nat), ∀ q ∈ am_rfL own, am_FO own q.1 q.2.1 q.2.2 := by
  intro own
  match own with
  | 0 =>
    exact List.forall_mem_cons.mpr ⟨fo_0_11, List.forall_mem_cons.mpr ⟨fo_0_15, List.forall_mem_cons.mpr ⟨fo_0_19, List.forall_mem_cons.mpr ⟨fo_0_22, fun _ h => (List.not_mem_nil h).elim⟩⟩⟩⟩
  | 1 =>
    exact List.forall_mem_cons.mpr ⟨fo_1_9, List.forall_mem_cons.mpr ⟨fo_1_13, fun _ h => (List.not_mem_nil h).elim⟩⟩
  | 2 =>
    exact List.forall_mem_cons.mpr ⟨fo_2_9, List.forall_mem_cons.mpr ⟨fo_2_13, fun _ h => (List.not_mem_nil h).elim⟩⟩
  | 3 =>
    exact List.forall_mem_cons.mpr ⟨fo_3_9, List.forall_mem_cons.mpr ⟨fo_3_15, List.forall_mem_cons.mpr ⟨fo_3_18, List.forall_mem_cons.mpr ⟨fo_3_21, fun _ h => (List.not_mem_nil h).elim⟩⟩⟩⟩
  | 4 =>
    exact List.forall_mem_cons.mpr ⟨fo_4_9, List.forall_mem_cons.mpr ⟨fo_4_15, List.forall_mem_cons.mpr ⟨fo_4_18, List.forall_mem_cons.mpr ⟨fo_4_22, List.forall_mem_cons.mpr ⟨fo_4_25, List.forall_mem_cons.mpr ⟨fo_4_28, List.forall_mem_cons.mpr ⟨fo_4_31, List.forall_mem_cons.mpr ⟨fo_4_34, List.forall_mem_cons.mpr ⟨fo_4_37, fun _ h => (List.not_mem_nil h).elim⟩⟩⟩⟩⟩⟩⟩⟩⟩
  | 5 =>
    exact List.forall_mem_cons.mpr ⟨fo_5_9, List.forall_mem_cons.mpr ⟨fo_5_15, List.forall_mem_cons.mpr ⟨fo_5_19, List.forall_mem_cons.mpr ⟨fo_5_23, fun _ h => (List.not_mem_nil h).elim⟩⟩⟩⟩
  | 6 =>
    exact List.forall_mem_cons.mpr ⟨fo_6_12, List.forall_mem_cons.mpr ⟨fo_6_18, List.forall_mem_cons.mpr ⟨fo_6_22, List.forall_mem_cons.mpr ⟨fo_6_26, List.forall_mem_cons.mpr ⟨fo_6_29, List.forall_mem_cons.mpr ⟨fo_6_32, List.forall_mem_cons.mpr ⟨fo_6_35, List.forall_mem_cons.mpr ⟨fo_6_39, List.forall_mem_cons.mpr ⟨fo_6_42, List.forall_mem_cons.mpr ⟨fo_6_45, List.forall_mem_cons.mpr ⟨fo_6_48, List.forall_mem_cons.mpr ⟨fo_6_52, fun _ h => (List.not_mem_nil h).elim⟩⟩⟩⟩⟩⟩⟩⟩⟩⟩⟩⟩
  | 7 =>
    exact List.forall_mem_cons.mpr ⟨fo_7_14, List.forall_mem_cons.mpr ⟨fo_7_21, List.forall_mem_cons.mpr ⟨fo_7_30, List.forall_mem_cons.mpr ⟨fo_7_37, List.forall_mem_cons.mpr ⟨fo_7_44, List.forall_mem_cons.mpr ⟨fo_7_51, List.forall_mem_cons.mpr ⟨fo_7_55, List.forall_mem_cons.mpr ⟨fo_7_58, List.forall_mem_cons.mpr ⟨fo_7_62, List.forall_mem_cons.mpr ⟨fo_7_66, fun _ h => (List.not_mem_nil h).elim⟩⟩⟩⟩⟩⟩⟩⟩⟩⟩
  | 8 =>
    exact List.forall_mem_cons.mpr ⟨fo_8_7, List.forall_mem_cons.mpr ⟨fo_8_13, List.forall_mem_cons.mpr ⟨fo_8_16, List.forall_mem_cons.mpr ⟨fo_8_19, List.forall_mem_cons.mpr ⟨fo_8_23, List.forall_mem_cons.mpr ⟨fo_8_26, List.forall_mem_cons.mpr ⟨fo_8_29, List.forall_mem_cons.mpr ⟨fo_8_32, List.forall_mem_cons.mpr ⟨fo_8_35, List.forall_mem_cons.mpr ⟨fo_8_38, List.forall_mem_cons.mpr ⟨fo_8_41, List.forall_mem_cons.mpr ⟨fo_8_45, List.forall_mem_cons.mpr ⟨fo_8_49, List.forall_mem_cons.mpr ⟨fo_8_52, List.forall_mem_cons.mpr ⟨fo_8_55, List.forall_mem_cons.mpr ⟨fo_8_58, List.forall_mem_cons.mpr ⟨fo_8_61, List.forall_mem_cons.mpr ⟨fo_8_66, List.forall_mem_cons.mpr ⟨fo_8_70, List.forall_mem_cons.mpr ⟨fo_8_73, List.forall_mem_cons.mpr ⟨fo_8_76, List.forall_mem_cons.mpr ⟨fo_8_79, List.forall_mem_cons.mpr ⟨fo_8_82, List.forall_mem_cons.mpr ⟨fo_8_85, List.forall_mem_cons.mpr ⟨fo_8_88, List.forall_mem_cons.mpr ⟨fo_8_110, List.forall_mem_cons.mpr ⟨fo_8_113, List.forall_mem_cons.mpr ⟨fo_8_131, List.forall_mem_cons.mpr ⟨fo_8_145, List.forall_mem_cons.mpr ⟨fo_8_151, List.forall_mem_cons.mpr ⟨fo_8_154, List.forall_mem_cons.mpr ⟨fo_8_161, List.forall_mem_cons.mpr ⟨fo_8_173, List.forall_mem_cons.mpr ⟨fo_8_207, List.forall_mem_cons.mpr ⟨fo_8_214, List.forall_mem_cons.mpr ⟨fo_8_217, fun _ h => (List.not_mem_nil h).elim⟩⟩⟩⟩⟩⟩⟩⟩⟩⟩⟩⟩⟩⟩⟩⟩⟩⟩⟩⟩⟩⟩⟩⟩⟩⟩⟩⟩⟩⟩⟩⟩⟩⟩⟩⟩
  | 9 =>
    exact fun _ h => (List.not_mem_nil h).elim
  | 10 =>
    exact fun _ h => (List.not_mem_nil h).elim
  | n + 11 => exact fun _ h => (List.not_mem_nil h).elim
theorem no_6_9 : am_NO 6 9 0 := ⟨tb_C0, (tb_1 85 rfl rfl), (tb_1 86 rfl rfl), (tb_1 5 rfl rfl)⟩
theorem no_7_11 : am_NO 7 11 3 := ⟨tb_C3, (tb_1 24 rfl rfl), (tb_1 25 rfl rfl), (tb_1 2 rfl rfl)⟩
theorem no_7_18 : am_NO 7 18 4 := ⟨tb_C4, (tb_1 44 rfl rfl), (tb_1 45 rfl rfl), (tb_1 3 rfl rfl)⟩
theorem no_7_25 : am_NO 7 25 6 := ⟨tb_C6, (tb_1 79 rfl rfl), (tb_1 80 rfl rfl), (tb_1 4 rfl rfl)⟩
theorem no_7_34 : am_NO 7 34 2 := ⟨tb_C2, (tb_1 141 rfl rfl), (tb_1 142 rfl rfl), (tb_1 6 rfl rfl)⟩
theorem no_7_41 : am_NO 7 41 1 := ⟨tb_C1, (tb_1 154 rfl rfl), (tb_1 155 rfl rfl), (tb_1 7 rfl rfl)⟩
theorem no_7_48 : am_NO 7 48 5 := ⟨tb_C5, (tb_1 167 rfl rfl), (tb_1 168 rfl rfl), (tb_1 8 rfl rfl)⟩
theorem no_10_8 : am_NO 10 8 7 := ⟨tb_C7, (tb_1 16 rfl rfl), (tb_1 17 rfl rfl), (tb_1 1 rfl rfl)⟩
theorem no_10_16 : am_NO 10 16 8 := ⟨tb_C8, (tb_3 221 rfl rfl), (tb_3 222 rfl rfl), (tb_1 9 rfl rfl)⟩
theorem tb_no : ∀ (own : Nat), ∀ q ∈ am_rnL own, am_NO own q.1 q.2 := by
  intro own
  match own with
  | 0 =>
    exact fun _ h => (List.not_mem_nil h).elim
  | 1 =>
    exact fun _ h => (List.not_mem_nil h).elim
  | 2 =>
    exact fun _ h => (List.not_mem_nil h).elim
  | 3 =>
    exact fun _ h => (List.not_mem_nil h).elim
  | 4 =>
    exact fun _ h => (List.not_mem_nil h).elim
  | 5 =>
    exact fun _ h => (List.not_mem_nil h).elim
  | 6 =>
    exact List.forall_mem_cons.mpr ⟨no_6_9, fun _ h => (List.not_mem_nil h).elim⟩
  | 7 =>
    exact List.forall_mem_cons.mpr ⟨no_7_11, List.forall_mem_cons.mpr ⟨no_7_18, List.forall_mem_cons.mpr ⟨no_7_25, List.forall_mem_cons.mpr ⟨no_7_34, List.forall_mem_cons.mpr ⟨no_7_41, List.forall_mem_cons.mpr ⟨no_7_48, fun _ h => (List.not_mem_nil h).elim⟩⟩⟩⟩⟩⟩
  | 8 =>
    exact fun _ h => (List.not_mem_nil h).elim
  | 9 =>
    exact fun _ h => (List.not_mem_nil h).elim
  | 10 =>
    exact List.forall_mem_cons.mpr ⟨no_10_8, List.forall_mem_cons.mpr ⟨no_10_16, fun _ h => (List.not_mem_nil h).elim⟩⟩
  | n + 11 => exact fun _ h => (List.not_mem_nil h).elim
theorem tb_kl : ∀ (own : Nat), ∀ q ∈ am_kLL own, Cond.constantLong (am_cn own) q.1 q.2 ∈ am_tbl := by
  intro own
  match own with
  | 0 =>
    exact List.forall_mem_cons.mpr ⟨(tb_2 116 rfl rfl), fun _ h => (List.not_mem_nil h).elim⟩
  | 1 =>
    exact fun _ h => (List.not_mem_nil h).elim
  | 2 =>
    exact fun _ h => (List.not_mem_nil h).elim
  | 3 =>
    exact List.forall_mem_cons.mpr ⟨(tb_2 67 rfl rfl), fun _ h => (List.not_mem_nil h).elim⟩
  | 4 =>
    exact List.forall_mem_cons.mpr ⟨(tb_2 91 rfl rfl), List.forall_mem_cons.mpr ⟨(tb_2 80 rfl rfl), List.forall_mem_cons.mpr ⟨(tb_2 81 rfl rfl), fun _ h => (List.not_mem_nil h).elim⟩⟩⟩
  | 5 =>
    exact fun _ h => (List.not_mem_nil h).elim
  | 6 =>
    exact List.forall_mem_cons.mpr ⟨(tb_2 71 rfl rfl), List.forall_mem_cons.mpr ⟨(tb_2 86 rfl rfl), List.forall_mem_cons.mpr ⟨(tb_2 152 rfl rfl), fun _ h => (List.not_mem_nil h).elim⟩⟩⟩
  | 7 =>
    exact List.forall_mem_cons.mpr ⟨(tb_1 221 rfl rfl), List.forall_mem_cons.mpr ⟨(tb_3 146 rfl rfl), List.forall_mem_cons.mpr ⟨(tb_3 43 rfl rfl), List.forall_mem_cons.mpr ⟨(tb_2 25 rfl rfl), List.forall_mem_cons.mpr ⟨(tb_2 42 rfl rfl), List.forall_mem_cons.mpr ⟨(tb_3 1 rfl rfl), List.forall_mem_cons.mpr ⟨(tb_3 6 rfl rfl), List.forall_mem_cons.mpr ⟨(tb_3 7 rfl rfl), fun _ h => (List.not_mem_nil h).elim⟩⟩⟩⟩⟩⟩⟩⟩
  | 8 =>
    exact List.forall_mem_cons.mpr ⟨(tb_3 227 rfl rfl), List.forall_mem_cons.mpr ⟨(tb_4 106 rfl rfl), List.forall_mem_cons.mpr ⟨(tb_4 107 rfl rfl), List.forall_mem_cons.mpr ⟨(tb_4 116 rfl rfl), List.forall_mem_cons.mpr ⟨(tb_4 117 rfl rfl), List.forall_mem_cons.mpr ⟨(tb_4 118 rfl rfl), List.forall_mem_cons.mpr ⟨(tb_4 131 rfl rfl), List.forall_mem_cons.mpr ⟨(tb_4 140 rfl rfl), List.forall_mem_cons.mpr ⟨(tb_4 221 rfl rfl), List.forall_mem_cons.mpr ⟨(tb_4 222 rfl rfl), List.forall_mem_cons.mpr ⟨(tb_4 227 rfl rfl), List.forall_mem_cons.mpr ⟨(tb_4 235 rfl rfl), List.forall_mem_cons.mpr ⟨(tb_4 236 rfl rfl), fun _ h => (List.not_mem_nil h).elim⟩⟩⟩⟩⟩⟩⟩⟩⟩⟩⟩⟩⟩
  | 9 =>
    exact List.forall_mem_cons.mpr ⟨(tb_3 86 rfl rfl), fun _ h => (List.not_mem_nil h).elim⟩
  | 10 =>
    exact List.forall_mem_cons.mpr ⟨(tb_5 8 rfl rfl), fun _ h => (List.not_mem_nil h).elim⟩
  | n + 11 => exact fun _ h => (List.not_mem_nil h).elim
/-- what a call's row says, by its kind -/
def tb_CL (own x kd k : Nat) : Prop := match kd with
  | 0 => k = am_lst ∨ am_LS own x k
  | 1 => Cond.methodLink (am_cn own) x Lib.objectInit ∈ am_tbl
  | 2 => am_MA own x Lib.Math.abs.name Lib.Math.abs.code 1 .int
  | 3 => am_MA own x Lib.MathLoose.abs_long.x Lib.MathLoose.abs_long.code 2 .long
  | 4 => am_MA own x Lib.MathLoose.max_long.x Lib.MathLoose.max_long.code 4 .long
  | 5 => am_MA own x Lib.MathLoose.min_long.x Lib.MathLoose.min_long.code 4 .long
  | 6 => am_LV own x k
  | 7 => am_LI own x k
  | _ => True
theorem cl_0_3 : tb_CL 0 3 1 0 := (tb_1 90 rfl rfl)
theorem cl_0_28 : tb_CL 0 28 6 65 := ⟨lk_65, tb_C0, rfl, (tb_2 122 rfl rfl), (tb_2 124 rfl rfl), (tb_p 3 rfl rfl), am_na 65 - 1, rfl, by unfold am_pn; decide +kernel⟩
theorem cl_0_32 : tb_CL 0 32 6 66 := ⟨lk_66, tb_C0, rfl, (tb_2 130 rfl rfl), (tb_2 132 rfl rfl), (tb_p 4 rfl rfl), am_na 66 - 1, rfl, by unfold am_pn; decide +kernel⟩
theorem cl_1_3 : tb_CL 1 3 1 0 := (tb_1 159 rfl rfl)
theorem cl_2_1 : tb_CL 2 1 1 0 := (tb_1 146 rfl rfl)
theorem cl_2_17 : tb_CL 2 17 6 78 := ⟨lk_78, tb_C2, rfl, (tb_3 119 rfl rfl), (tb_3 121 rfl rfl), (tb_p 26 rfl rfl), am_na 78 - 1, rfl, by unfold am_pn; decide +kernel⟩
theorem cl_2_21 : tb_CL 2 21 0 79 := Or.inr ⟨lk_79, (tb_3 123 rfl rfl), (tb_3 124 rfl rfl), by unfold am_pn; decide +kernel⟩
theorem cl_3_3 : tb_CL 3 3 1 0 := (tb_1 29 rfl rfl)
theorem cl_3_27 : tb_CL 3 27 4 0 := ⟨(tb_2 68 rfl rfl), (tb_2 69 rfl rfl), (tb_1 14 rfl rfl), (tb_2 70 rfl rfl)⟩
theorem cl_3_33 : tb_CL 3 33 6 89 := ⟨lk_89, tb_C3, rfl, (tb_2 34 rfl rfl), (tb_2 35 rfl rfl), (tb_2 36 rfl rfl), am_na 89 - 1, rfl, by unfold am_pn; decide +kernel⟩
theorem cl_4_3 : tb_CL 4 3 1 0 := (tb_1 49 rfl rfl)
theorem cl_5_3 : tb_CL 5 3 1 0 := (tb_1 172 rfl rfl)
theorem cl_5_27 : tb_CL 5 27 2 0 := ⟨(tb_2 226 rfl rfl), (tb_2 227 rfl rfl), (tb_1 14 rfl rfl), (tb_2 228 rfl rfl)⟩
theorem cl_5_33 : tb_CL 5 33 6 111 := ⟨lk_111, tb_C5, rfl, (tb_3 74 rfl rfl), (tb_2 223 rfl rfl), (tb_2 224 rfl rfl), am_na 111 - 1, rfl, by unfold am_pn; decide +kernel⟩
theorem cl_6_3 : tb_CL 6 3 1 0 := (tb_1 84 rfl rfl)
theorem cl_6_11 : tb_CL 6 11 7 60 := ⟨lk_60, rfl, Or.inr ⟨"RouteGuide", List.mem_of_getElem? (i := 0) rfl⟩, (tb_1 88 rfl rfl), rfl, rfl, am_na 60 - 1, rfl, by unfold am_pn; decide +kernel⟩
theorem cl_6_56 : tb_CL 6 56 6 97 := ⟨lk_97, tb_C4, rfl, (tb_2 47 rfl rfl), (tb_2 48 rfl rfl), (tb_2 49 rfl rfl), am_na 97 - 1, rfl, by unfold am_pn; decide +kernel⟩
theorem cl_6_62 : tb_CL 6 62 6 81 := ⟨lk_81, tb_C3, rfl, (tb_2 59 rfl rfl), (tb_2 60 rfl rfl), (tb_2 61 rfl rfl), am_na 81 - 1, rfl, by unfold am_pn; decide +kernel⟩
theorem cl_6_68 : tb_CL 6 68 6 90 := ⟨lk_90, tb_C3, rfl, (tb_2 63 rfl rfl), (tb_2 64 rfl rfl), (tb_2 65 rfl rfl), am_na 90 - 1, rfl, by unfold am_pn; decide +kernel⟩
theorem cl_6_74 : tb_CL 6 74 6 93 := ⟨lk_93, tb_C4, rfl, (tb_2 72 rfl rfl), (tb_2 73 rfl rfl), (tb_2 74 rfl rfl), am_na 93 - 1, rfl, by unfold am_pn; decide +kernel⟩
theorem cl_6_75 : tb_CL 6 75 6 106 := ⟨lk_106, tb_C4, rfl, (tb_2 76 rfl rfl), (tb_2 77 rfl rfl), (tb_2 78 rfl rfl), am_na 106 - 1, rfl, by unfold am_pn; decide +kernel⟩
theorem cl_6_79 : tb_CL 6 79 6 100 := ⟨lk_100, tb_C4, rfl, (tb_2 82 rfl rfl), (tb_2 83 rfl rfl), (tb_2 84 rfl rfl), am_na 100 - 1, rfl, by unfold am_pn; decide +kernel⟩
theorem cl_6_84 : tb_CL 6 84 6 101 := ⟨lk_101, tb_C4, rfl, (tb_2 87 rfl rfl), (tb_2 88 rfl rfl), (tb_2 89 rfl rfl), am_na 101 - 1, rfl, by unfold am_pn; decide +kernel⟩
theorem cl_6_88 : tb_CL 6 88 6 112 := ⟨lk_112, tb_C5, rfl, (tb_2 96 rfl rfl), (tb_2 97 rfl rfl), (tb_2 98 rfl rfl), am_na 112 - 1, rfl, by unfold am_pn; decide +kernel⟩
theorem cl_6_93 : tb_CL 6 93 6 114 := ⟨lk_114, tb_C5, rfl, (tb_2 100 rfl rfl), (tb_2 101 rfl rfl), (tb_2 102 rfl rfl), am_na 114 - 1, rfl, by unfold am_pn; decide +kernel⟩
theorem cl_6_97 : tb_CL 6 97 6 126 := ⟨lk_126, tb_C6, rfl, (tb_2 104 rfl rfl), (tb_2 106 rfl rfl), (tb_p 1 rfl rfl), am_na 126 - 1, rfl, by unfold am_pn; decide +kernel⟩
theorem cl_6_100 : tb_CL 6 100 6 124 := ⟨lk_124, tb_C6, rfl, (tb_2 134 rfl rfl), (tb_2 136 rfl rfl), (tb_p 5 rfl rfl), am_na 124 - 1, rfl, by unfold am_pn; decide +kernel⟩
theorem cl_6_103 : tb_CL 6 103 6 62 := ⟨lk_62, tb_C0, rfl, (tb_2 138 rfl rfl), (tb_2 139 rfl rfl), (tb_2 140 rfl rfl), am_na 62 - 1, rfl, by unfold am_pn; decide +kernel⟩
theorem cl_6_108 : tb_CL 6 108 6 128 := ⟨lk_128, tb_C6, rfl, (tb_2 153 rfl rfl), (tb_2 155 rfl rfl), (tb_p 8 rfl rfl), am_na 128 - 1, rfl, by unfold am_pn; decide +kernel⟩
theorem cl_6_112 : tb_CL 6 112 6 131 := ⟨lk_131, tb_C6, rfl, (tb_2 157 rfl rfl), (tb_2 159 rfl rfl), (tb_p 9 rfl rfl), am_na 131 - 1, rfl, by unfold am_pn; decide +kernel⟩
theorem cl_6_115 : tb_CL 6 115 6 109 := ⟨lk_109, tb_C5, rfl, (tb_3 64 rfl rfl), (tb_2 215 rfl rfl), (tb_2 216 rfl rfl), am_na 109 - 1, rfl, by unfold am_pn; decide +kernel⟩
theorem cl_6_118 : tb_CL 6 118 6 111 := ⟨lk_111, tb_C5, rfl, (tb_3 65 rfl rfl), (tb_2 223 rfl rfl), (tb_2 224 rfl rfl), am_na 111 - 1, rfl, by unfold am_pn; decide +kernel⟩
theorem cl_6_121 : tb_CL 6 121 6 125 := ⟨lk_125, tb_C6, rfl, (tb_2 146 rfl rfl), (tb_2 148 rfl rfl), (tb_p 7 rfl rfl), am_na 125 - 1, rfl, by unfold am_pn; decide +kernel⟩
theorem cl_6_125 : tb_CL 6 125 6 99 := ⟨lk_99, tb_C4, rfl, (tb_2 117 rfl rfl), (tb_2 6 rfl rfl), (tb_2 7 rfl rfl), am_na 99 - 1, rfl, by unfold am_pn; decide +kernel⟩
theorem cl_6_128 : tb_CL 6 128 6 132 := ⟨lk_132, tb_C6, rfl, (tb_2 161 rfl rfl), (tb_2 163 rfl rfl), (tb_p 10 rfl rfl), am_na 132 - 1, rfl, by unfold am_pn; decide +kernel⟩
theorem cl_6_131 : tb_CL 6 131 6 133 := ⟨lk_133, tb_C6, rfl, (tb_2 176 rfl rfl), (tb_2 178 rfl rfl), (tb_p 13 rfl rfl), am_na 133 - 1, rfl, by unfold am_pn; decide +kernel⟩
theorem cl_6_134 : tb_CL 6 134 6 134 := ⟨lk_134, tb_C6, rfl, (tb_3 66 rfl rfl), (tb_3 68 rfl rfl), (tb_p 24 rfl rfl), am_na 134 - 1, rfl, by unfold am_pn; decide +kernel⟩
theorem cl_6_138 : tb_CL 6 138 6 135 := ⟨lk_135, tb_C6, rfl, (tb_2 188 rfl rfl), (tb_2 190 rfl rfl), (tb_p 14 rfl rfl), am_na 135 - 1, rfl, by unfold am_pn; decide +kernel⟩
theorem cl_6_141 : tb_CL 6 141 6 89 := ⟨lk_89, tb_C3, rfl, (tb_2 196 rfl rfl), (tb_2 35 rfl rfl), (tb_2 36 rfl rfl), am_na 89 - 1, rfl, by unfold am_pn; decide +kernel⟩
theorem cl_6_145 : tb_CL 6 145 6 138 := ⟨lk_138, tb_C6, rfl, (tb_2 201 rfl rfl), (tb_2 203 rfl rfl), (tb_p 17 rfl rfl), am_na 138 - 1, rfl, by unfold am_pn; decide +kernel⟩
theorem cl_6_148 : tb_CL 6 148 6 87 := ⟨lk_87, tb_C3, rfl, (tb_2 205 rfl rfl), (tb_2 206 rfl rfl), (tb_2 207 rfl rfl), am_na 87 - 1, rfl, by unfold am_pn; decide +kernel⟩
theorem cl_6_152 : tb_CL 6 152 6 98 := ⟨lk_98, tb_C4, rfl, (tb_2 150 rfl rfl), (tb_2 2 rfl rfl), (tb_2 3 rfl rfl), am_na 98 - 1, rfl, by unfold am_pn; decide +kernel⟩
theorem cl_6_155 : tb_CL 6 155 6 102 := ⟨lk_102, tb_C4, rfl, (tb_2 151 rfl rfl), (tb_2 10 rfl rfl), (tb_2 11 rfl rfl), am_na 102 - 1, rfl, by unfold am_pn; decide +kernel⟩
theorem cl_6_158 : tb_CL 6 158 6 123 := ⟨lk_123, tb_C6, rfl, (tb_2 108 rfl rfl), (tb_2 110 rfl rfl), (tb_p 2 rfl rfl), am_na 123 - 1, rfl, by unfold am_pn; decide +kernel⟩
theorem cl_6_161 : tb_CL 6 161 6 61 := ⟨lk_61, tb_C0, rfl, (tb_2 112 rfl rfl), (tb_2 113 rfl rfl), (tb_2 114 rfl rfl), am_na 61 - 1, rfl, by unfold am_pn; decide +kernel⟩
theorem cl_6_164 : tb_CL 6 164 6 63 := ⟨lk_63, tb_C0, rfl, (tb_2 118 rfl rfl), (tb_2 119 rfl rfl), (tb_2 120 rfl rfl), am_na 63 - 1, rfl, by unfold am_pn; decide +kernel⟩
theorem cl_6_168 : tb_CL 6 168 6 64 := ⟨lk_64, tb_C0, rfl, (tb_2 126 rfl rfl), (tb_2 127 rfl rfl), (tb_2 128 rfl rfl), am_na 64 - 1, rfl, by unfold am_pn; decide +kernel⟩
theorem cl_6_171 : tb_CL 6 171 6 127 := ⟨lk_127, tb_C6, rfl, (tb_2 142 rfl rfl), (tb_2 144 rfl rfl), (tb_p 6 rfl rfl), am_na 127 - 1, rfl, by unfold am_pn; decide +kernel⟩
theorem cl_6_175 : tb_CL 6 175 6 129 := ⟨lk_129, tb_C6, rfl, (tb_2 168 rfl rfl), (tb_2 170 rfl rfl), (tb_p 11 rfl rfl), am_na 129 - 1, rfl, by unfold am_pn; decide +kernel⟩
theorem cl_6_179 : tb_CL 6 179 6 113 := ⟨lk_113, tb_C5, rfl, (tb_2 180 rfl rfl), (tb_2 181 rfl rfl), (tb_2 182 rfl rfl), am_na 113 - 1, rfl, by unfold am_pn; decide +kernel⟩
theorem cl_6_182 : tb_CL 6 182 6 130 := ⟨lk_130, tb_C6, rfl, (tb_2 172 rfl rfl), (tb_2 174 rfl rfl), (tb_p 12 rfl rfl), am_na 130 - 1, rfl, by unfold am_pn; decide +kernel⟩
theorem cl_6_186 : tb_CL 6 186 5 0 := ⟨(tb_2 165 rfl rfl), (tb_2 166 rfl rfl), (tb_1 14 rfl rfl), (tb_2 167 rfl rfl)⟩
theorem cl_6_192 : tb_CL 6 192 6 137 := ⟨lk_137, tb_C6, rfl, (tb_2 192 rfl rfl), (tb_2 194 rfl rfl), (tb_p 15 rfl rfl), am_na 137 - 1, rfl, by unfold am_pn; decide +kernel⟩
theorem cl_6_196 : tb_CL 6 196 6 136 := ⟨lk_136, tb_C6, rfl, (tb_2 197 rfl rfl), (tb_2 199 rfl rfl), (tb_p 16 rfl rfl), am_na 136 - 1, rfl, by unfold am_pn; decide +kernel⟩
theorem cl_7_5 : tb_CL 7 5 1 0 := (tb_1 21 rfl rfl)
theorem cl_7_13 : tb_CL 7 13 7 80 := ⟨lk_80, rfl, Or.inr ⟨"RouteGuide", List.mem_of_getElem? (i := 1) rfl⟩, (tb_1 27 rfl rfl), rfl, rfl, am_na 80 - 1, rfl, by unfold am_pn; decide +kernel⟩
theorem cl_7_20 : tb_CL 7 20 7 92 := ⟨lk_92, rfl, Or.inr ⟨"RouteGuide", List.mem_of_getElem? (i := 2) rfl⟩, (tb_1 47 rfl rfl), rfl, rfl, am_na 92 - 1, rfl, by unfold am_pn; decide +kernel⟩
theorem cl_7_27 : tb_CL 7 27 7 117 := ⟨lk_117, rfl, Or.inl (tb_1 81 rfl rfl), (tb_1 82 rfl rfl), rfl, rfl, am_na 117 - 1, rfl, by unfold am_pn; decide +kernel⟩
theorem cl_7_36 : tb_CL 7 36 7 72 := ⟨lk_72, rfl, Or.inr ⟨"RouteGuide", List.mem_of_getElem? (i := 3) rfl⟩, (tb_1 144 rfl rfl), rfl, rfl, am_na 72 - 1, rfl, by unfold am_pn; decide +kernel⟩
theorem cl_7_43 : tb_CL 7 43 7 70 := ⟨lk_70, rfl, Or.inr ⟨"RouteGuide", List.mem_of_getElem? (i := 4) rfl⟩, (tb_1 157 rfl rfl), rfl, rfl, am_na 70 - 1, rfl, by unfold am_pn; decide +kernel⟩
theorem cl_7_50 : tb_CL 7 50 7 107 := ⟨lk_107, rfl, Or.inr ⟨"RouteGuide", List.mem_of_getElem? (i := 5) rfl⟩, (tb_1 170 rfl rfl), rfl, rfl, am_na 107 - 1, rfl, by unfold am_pn; decide +kernel⟩
theorem cl_7_72 : tb_CL 7 72 0 15 := Or.inr ⟨lk_15, (tb_1 222 rfl rfl), (tb_1 223 rfl rfl), by unfold am_pn; decide +kernel⟩
theorem cl_7_76 : tb_CL 7 76 6 83 := ⟨lk_83, tb_C3, rfl, (tb_1 225 rfl rfl), (tb_1 226 rfl rfl), (tb_1 227 rfl rfl), am_na 83 - 1, rfl, by unfold am_pn; decide +kernel⟩
theorem cl_7_80 : tb_CL 7 80 6 84 := ⟨lk_84, tb_C3, rfl, (tb_1 229 rfl rfl), (tb_1 230 rfl rfl), (tb_1 231 rfl rfl), am_na 84 - 1, rfl, by unfold am_pn; decide +kernel⟩
theorem cl_7_84 : tb_CL 7 84 6 82 := ⟨lk_82, tb_C3, rfl, (tb_2 21 rfl rfl), (tb_2 22 rfl rfl), (tb_2 23 rfl rfl), am_na 82 - 1, rfl, by unfold am_pn; decide +kernel⟩
theorem cl_7_92 : tb_CL 7 92 6 95 := ⟨lk_95, tb_C4, rfl, (tb_3 147 rfl rfl), (tb_3 148 rfl rfl), (tb_3 149 rfl rfl), am_na 95 - 1, rfl, by unfold am_pn; decide +kernel⟩
theorem cl_7_100 : tb_CL 7 100 6 96 := ⟨lk_96, tb_C4, rfl, (tb_3 217 rfl rfl), (tb_3 218 rfl rfl), (tb_3 219 rfl rfl), am_na 96 - 1, rfl, by unfold am_pn; decide +kernel⟩
theorem cl_7_103 : tb_CL 7 103 6 94 := ⟨lk_94, tb_C4, rfl, (tb_1 237 rfl rfl), (tb_1 238 rfl rfl), (tb_1 239 rfl rfl), am_na 94 - 1, rfl, by unfold am_pn; decide +kernel⟩
theorem cl_7_104 : tb_CL 7 104 6 98 := ⟨lk_98, tb_C4, rfl, (tb_2 1 rfl rfl), (tb_2 2 rfl rfl), (tb_2 3 rfl rfl), am_na 98 - 1, rfl, by unfold am_pn; decide +kernel⟩
theorem cl_7_108 : tb_CL 7 108 6 99 := ⟨lk_99, tb_C4, rfl, (tb_2 5 rfl rfl), (tb_2 6 rfl rfl), (tb_2 7 rfl rfl), am_na 99 - 1, rfl, by unfold am_pn; decide +kernel⟩
theorem cl_7_111 : tb_CL 7 111 6 102 := ⟨lk_102, tb_C4, rfl, (tb_2 9 rfl rfl), (tb_2 10 rfl rfl), (tb_2 11 rfl rfl), am_na 102 - 1, rfl, by unfold am_pn; decide +kernel⟩
theorem cl_7_115 : tb_CL 7 115 6 103 := ⟨lk_103, tb_C4, rfl, (tb_2 13 rfl rfl), (tb_2 14 rfl rfl), (tb_2 15 rfl rfl), am_na 103 - 1, rfl, by unfold am_pn; decide +kernel⟩
theorem cl_7_121 : tb_CL 7 121 6 88 := ⟨lk_88, tb_C3, rfl, (tb_2 26 rfl rfl), (tb_2 27 rfl rfl), (tb_2 28 rfl rfl), am_na 88 - 1, rfl, by unfold am_pn; decide +kernel⟩
theorem cl_7_125 : tb_CL 7 125 6 91 := ⟨lk_91, tb_C3, rfl, (tb_2 30 rfl rfl), (tb_2 31 rfl rfl), (tb_2 32 rfl rfl), am_na 91 - 1, rfl, by unfold am_pn; decide +kernel⟩
theorem cl_7_131 : tb_CL 7 131 6 118 := ⟨lk_118, tb_C6, rfl, (tb_2 43 rfl rfl), (tb_2 44 rfl rfl), (tb_2 45 rfl rfl), am_na 118 - 1, rfl, by unfold am_pn; decide +kernel⟩
theorem cl_7_135 : tb_CL 7 135 6 16 := ⟨lk_16, tb_C7, rfl, (tb_2 51 rfl rfl), (tb_2 53 rfl rfl), (tb_p 0 rfl rfl), am_na 16 - 1, rfl, by unfold am_pn; decide +kernel⟩
theorem cl_7_138 : tb_CL 7 138 6 112 := ⟨lk_112, tb_C5, rfl, (tb_2 209 rfl rfl), (tb_2 97 rfl rfl), (tb_2 98 rfl rfl), am_na 112 - 1, rfl, by unfold am_pn; decide +kernel⟩
theorem cl_7_141 : tb_CL 7 141 6 17 := ⟨lk_17, tb_C7, rfl, (tb_2 210 rfl rfl), (tb_2 212 rfl rfl), (tb_p 18 rfl rfl), am_na 17 - 1, rfl, by unfold am_pn; decide +kernel⟩
theorem cl_7_144 : tb_CL 7 144 6 109 := ⟨lk_109, tb_C5, rfl, (tb_2 214 rfl rfl), (tb_2 215 rfl rfl), (tb_2 216 rfl rfl), am_na 109 - 1, rfl, by unfold am_pn; decide +kernel⟩
theorem cl_7_147 : tb_CL 7 147 6 111 := ⟨lk_111, tb_C5, rfl, (tb_2 222 rfl rfl), (tb_2 223 rfl rfl), (tb_2 224 rfl rfl), am_na 111 - 1, rfl, by unfold am_pn; decide +kernel⟩
theorem cl_7_150 : tb_CL 7 150 6 108 := ⟨lk_108, tb_C5, rfl, (tb_2 233 rfl rfl), (tb_2 234 rfl rfl), (tb_2 235 rfl rfl), am_na 108 - 1, rfl, by unfold am_pn; decide +kernel⟩
theorem cl_7_153 : tb_CL 7 153 6 110 := ⟨lk_110, tb_C5, rfl, (tb_2 237 rfl rfl), (tb_2 238 rfl rfl), (tb_2 239 rfl rfl), am_na 110 - 1, rfl, by unfold am_pn; decide +kernel⟩
theorem cl_7_163 : tb_CL 7 163 6 93 := ⟨lk_93, tb_C4, rfl, (tb_3 8 rfl rfl), (tb_2 73 rfl rfl), (tb_2 74 rfl rfl), am_na 93 - 1, rfl, by unfold am_pn; decide +kernel⟩
theorem cl_7_166 : tb_CL 7 166 6 22 := ⟨lk_22, tb_C7, rfl, (tb_3 9 rfl rfl), (tb_3 11 rfl rfl), (tb_p 19 rfl rfl), am_na 22 - 1, rfl, by unfold am_pn; decide +kernel⟩
theorem cl_7_169 : tb_CL 7 169 6 23 := ⟨lk_23, tb_C7, rfl, (tb_3 32 rfl rfl), (tb_3 34 rfl rfl), (tb_p 22 rfl rfl), am_na 23 - 1, rfl, by unfold am_pn; decide +kernel⟩
theorem cl_7_173 : tb_CL 7 173 6 104 := ⟨lk_104, tb_C4, rfl, (tb_3 44 rfl rfl), (tb_3 45 rfl rfl), (tb_3 46 rfl rfl), am_na 104 - 1, rfl, by unfold am_pn; decide +kernel⟩
theorem cl_7_177 : tb_CL 7 177 6 105 := ⟨lk_105, tb_C4, rfl, (tb_3 48 rfl rfl), (tb_3 49 rfl rfl), (tb_3 50 rfl rfl), am_na 105 - 1, rfl, by unfold am_pn; decide +kernel⟩
theorem cl_7_181 : tb_CL 7 181 6 18 := ⟨lk_18, tb_C7, rfl, (tb_3 56 rfl rfl), (tb_3 58 rfl rfl), (tb_p 23 rfl rfl), am_na 18 - 1, rfl, by unfold am_pn; decide +kernel⟩
theorem cl_7_185 : tb_CL 7 185 6 21 := ⟨lk_21, tb_C7, rfl, (tb_3 79 rfl rfl), (tb_3 81 rfl rfl), (tb_p 25 rfl rfl), am_na 21 - 1, rfl, by unfold am_pn; decide +kernel⟩
theorem cl_7_189 : tb_CL 7 189 6 115 := ⟨lk_115, tb_C5, rfl, (tb_3 90 rfl rfl), (tb_3 91 rfl rfl), (tb_3 92 rfl rfl), am_na 115 - 1, rfl, by unfold am_pn; decide +kernel⟩
theorem cl_7_192 : tb_CL 7 192 6 73 := ⟨lk_73, tb_C2, rfl, (tb_3 98 rfl rfl), (tb_3 99 rfl rfl), (tb_3 100 rfl rfl), am_na 73 - 1, rfl, by unfold am_pn; decide +kernel⟩
theorem cl_7_195 : tb_CL 7 195 6 75 := ⟨lk_75, tb_C2, rfl, (tb_3 102 rfl rfl), (tb_3 103 rfl rfl), (tb_3 104 rfl rfl), am_na 75 - 1, rfl, by unfold am_pn; decide +kernel⟩
theorem cl_7_198 : tb_CL 7 198 6 74 := ⟨lk_74, tb_C2, rfl, (tb_3 106 rfl rfl), (tb_3 107 rfl rfl), (tb_3 108 rfl rfl), am_na 74 - 1, rfl, by unfold am_pn; decide +kernel⟩
theorem cl_7_199 : tb_CL 7 199 6 76 := ⟨lk_76, tb_C2, rfl, (tb_3 110 rfl rfl), (tb_3 111 rfl rfl), (tb_3 112 rfl rfl), am_na 76 - 1, rfl, by unfold am_pn; decide +kernel⟩
theorem cl_7_202 : tb_CL 7 202 6 81 := ⟨lk_81, tb_C3, rfl, (tb_3 114 rfl rfl), (tb_2 60 rfl rfl), (tb_2 61 rfl rfl), am_na 81 - 1, rfl, by unfold am_pn; decide +kernel⟩
theorem cl_7_203 : tb_CL 7 203 6 77 := ⟨lk_77, tb_C2, rfl, (tb_3 115 rfl rfl), (tb_3 116 rfl rfl), (tb_3 117 rfl rfl), am_na 77 - 1, rfl, by unfold am_pn; decide +kernel⟩
theorem cl_7_206 : tb_CL 7 206 6 71 := ⟨lk_71, tb_C1, rfl, (tb_3 134 rfl rfl), (tb_3 135 rfl rfl), (tb_3 136 rfl rfl), am_na 71 - 1, rfl, by unfold am_pn; decide +kernel⟩
theorem cl_7_209 : tb_CL 7 209 6 119 := ⟨lk_119, tb_C6, rfl, (tb_2 55 rfl rfl), (tb_2 56 rfl rfl), (tb_2 57 rfl rfl), am_na 119 - 1, rfl, by unfold am_pn; decide +kernel⟩
theorem cl_7_213 : tb_CL 7 213 6 120 := ⟨lk_120, tb_C6, rfl, (tb_2 92 rfl rfl), (tb_2 93 rfl rfl), (tb_2 94 rfl rfl), am_na 120 - 1, rfl, by unfold am_pn; decide +kernel⟩
theorem cl_7_217 : tb_CL 7 217 6 122 := ⟨lk_122, tb_C6, rfl, (tb_2 184 rfl rfl), (tb_2 185 rfl rfl), (tb_2 186 rfl rfl), am_na 122 - 1, rfl, by unfold am_pn; decide +kernel⟩
theorem cl_7_220 : tb_CL 7 220 6 121 := ⟨lk_121, tb_C6, rfl, (tb_3 60 rfl rfl), (tb_3 61 rfl rfl), (tb_3 62 rfl rfl), am_na 121 - 1, rfl, by unfold am_pn; decide +kernel⟩
theorem cl_7_224 : tb_CL 7 224 6 116 := ⟨lk_116, tb_C5, rfl, (tb_3 70 rfl rfl), (tb_3 71 rfl rfl), (tb_3 72 rfl rfl), am_na 116 - 1, rfl, by unfold am_pn; decide +kernel⟩
theorem cl_7_227 : tb_CL 7 227 6 85 := ⟨lk_85, tb_C3, rfl, (tb_3 17 rfl rfl), (tb_3 18 rfl rfl), (tb_3 19 rfl rfl), am_na 85 - 1, rfl, by unfold am_pn; decide +kernel⟩
theorem cl_7_231 : tb_CL 7 231 6 86 := ⟨lk_86, tb_C3, rfl, (tb_3 25 rfl rfl), (tb_3 26 rfl rfl), (tb_3 27 rfl rfl), am_na 86 - 1, rfl, by unfold am_pn; decide +kernel⟩
theorem cl_7_234 : tb_CL 7 234 6 19 := ⟨lk_19, tb_C7, rfl, (tb_3 13 rfl rfl), (tb_3 15 rfl rfl), (tb_p 20 rfl rfl), am_na 19 - 1, rfl, by unfold am_pn; decide +kernel⟩
theorem cl_7_237 : tb_CL 7 237 6 20 := ⟨lk_20, tb_C7, rfl, (tb_3 21 rfl rfl), (tb_3 23 rfl rfl), (tb_p 21 rfl rfl), am_na 20 - 1, rfl, by unfold am_pn; decide +kernel⟩
theorem cl_7_240 : tb_CL 7 240 0 67 := Or.inr ⟨lk_67, (tb_3 83 rfl rfl), (tb_3 84 rfl rfl), by unfold am_pn; decide +kernel⟩
theorem cl_7_246 : tb_CL 7 246 0 68 := Or.inr ⟨lk_68, (tb_3 29 rfl rfl), (tb_3 30 rfl rfl), by unfold am_pn; decide +kernel⟩
theorem cl_7_249 : tb_CL 7 249 0 69 := Or.inr ⟨lk_69, (tb_3 36 rfl rfl), (tb_3 37 rfl rfl), by unfold am_pn; decide +kernel⟩
theorem cl_8_1 : tb_CL 8 1 1 0 := (tb_3 226 rfl rfl)
theorem cl_8_95 : tb_CL 8 95 6 26 := ⟨lk_26, tb_C8, rfl, (tb_4 112 rfl rfl), (tb_4 114 rfl rfl), (tb_p 28 rfl rfl), am_na 26 - 1, rfl, by unfold am_pn; decide +kernel⟩
theorem cl_8_105 : tb_CL 8 105 6 27 := ⟨lk_27, tb_C8, rfl, (tb_4 123 rfl rfl), (tb_4 125 rfl rfl), (tb_p 29 rfl rfl), am_na 27 - 1, rfl, by unfold am_pn; decide +kernel⟩
theorem cl_8_116 : tb_CL 8 116 6 37 := ⟨lk_37, tb_C8, rfl, (tb_4 153 rfl rfl), (tb_4 155 rfl rfl), (tb_p 33 rfl rfl), am_na 37 - 1, rfl, by unfold am_pn; decide +kernel⟩
theorem cl_8_120 : tb_CL 8 120 6 33 := ⟨lk_33, tb_C8, rfl, (tb_4 173 rfl rfl), (tb_4 175 rfl rfl), (tb_p 38 rfl rfl), am_na 33 - 1, rfl, by unfold am_pn; decide +kernel⟩
theorem cl_8_124 : tb_CL 8 124 6 36 := ⟨lk_36, tb_C8, rfl, (tb_4 165 rfl rfl), (tb_4 167 rfl rfl), (tb_p 36 rfl rfl), am_na 36 - 1, rfl, by unfold am_pn; decide +kernel⟩
theorem cl_8_127 : tb_CL 8 127 6 35 := ⟨lk_35, tb_C8, rfl, (tb_4 149 rfl rfl), (tb_4 151 rfl rfl), (tb_p 32 rfl rfl), am_na 35 - 1, rfl, by unfold am_pn; decide +kernel⟩
theorem cl_8_134 : tb_CL 8 134 6 34 := ⟨lk_34, tb_C8, rfl, (tb_4 157 rfl rfl), (tb_4 159 rfl rfl), (tb_p 34 rfl rfl), am_na 34 - 1, rfl, by unfold am_pn; decide +kernel⟩
theorem cl_8_137 : tb_CL 8 137 6 39 := ⟨lk_39, tb_C8, rfl, (tb_4 161 rfl rfl), (tb_4 163 rfl rfl), (tb_p 35 rfl rfl), am_na 39 - 1, rfl, by unfold am_pn; decide +kernel⟩
theorem cl_8_141 : tb_CL 8 141 6 38 := ⟨lk_38, tb_C8, rfl, (tb_4 169 rfl rfl), (tb_4 171 rfl rfl), (tb_p 37 rfl rfl), am_na 38 - 1, rfl, by unfold am_pn; decide +kernel⟩
theorem cl_8_148 : tb_CL 8 148 6 40 := ⟨lk_40, tb_C8, rfl, (tb_4 145 rfl rfl), (tb_4 147 rfl rfl), (tb_p 31 rfl rfl), am_na 40 - 1, rfl, by unfold am_pn; decide +kernel⟩
theorem cl_8_157 : tb_CL 8 157 6 45 := ⟨lk_45, tb_C8, rfl, (tb_4 177 rfl rfl), (tb_4 179 rfl rfl), (tb_p 39 rfl rfl), am_na 45 - 1, rfl, by unfold am_pn; decide +kernel⟩
theorem cl_8_164 : tb_CL 8 164 6 41 := ⟨lk_41, tb_C8, rfl, (tb_4 185 rfl rfl), (tb_4 187 rfl rfl), (tb_p 41 rfl rfl), am_na 41 - 1, rfl, by unfold am_pn; decide +kernel⟩
theorem cl_8_167 : tb_CL 8 167 6 42 := ⟨lk_42, tb_C8, rfl, (tb_4 189 rfl rfl), (tb_4 191 rfl rfl), (tb_p 42 rfl rfl), am_na 42 - 1, rfl, by unfold am_pn; decide +kernel⟩
theorem cl_8_170 : tb_CL 8 170 6 44 := ⟨lk_44, tb_C8, rfl, (tb_4 181 rfl rfl), (tb_4 183 rfl rfl), (tb_p 40 rfl rfl), am_na 44 - 1, rfl, by unfold am_pn; decide +kernel⟩
theorem cl_8_178 : tb_CL 8 178 6 43 := ⟨lk_43, tb_C8, rfl, (tb_4 141 rfl rfl), (tb_4 143 rfl rfl), (tb_p 30 rfl rfl), am_na 43 - 1, rfl, by unfold am_pn; decide +kernel⟩
theorem cl_8_182 : tb_CL 8 182 6 46 := ⟨lk_46, tb_C8, rfl, (tb_4 193 rfl rfl), (tb_4 195 rfl rfl), (tb_p 43 rfl rfl), am_na 46 - 1, rfl, by unfold am_pn; decide +kernel⟩
theorem cl_8_185 : tb_CL 8 185 6 48 := ⟨lk_48, tb_C8, rfl, (tb_4 201 rfl rfl), (tb_4 203 rfl rfl), (tb_p 44 rfl rfl), am_na 48 - 1, rfl, by unfold am_pn; decide +kernel⟩
theorem cl_8_195 : tb_CL 8 195 0 54 := Or.inr ⟨lk_54, (tb_4 228 rfl rfl), (tb_4 229 rfl rfl), by unfold am_pn; decide +kernel⟩
theorem cl_8_199 : tb_CL 8 199 6 55 := ⟨lk_55, tb_C8, rfl, (tb_4 231 rfl rfl), (tb_4 233 rfl rfl), (tb_p 45 rfl rfl), am_na 55 - 1, rfl, by unfold am_pn; decide +kernel⟩
theorem cl_8_210 : tb_CL 8 210 0 57 := Or.inr ⟨lk_57, (tb_5 1 rfl rfl), (tb_5 2 rfl rfl), by unfold am_pn; decide +kernel⟩
theorem cl_9_9 : tb_CL 9 9 3 0 := ⟨(tb_3 87 rfl rfl), (tb_3 88 rfl rfl), (tb_1 14 rfl rfl), (tb_3 89 rfl rfl)⟩
theorem cl_10_7 : tb_CL 10 7 6 2 := ⟨lk_2, tb_C7, rfl, (tb_3 142 rfl rfl), (tb_3 143 rfl rfl), (tb_3 144 rfl rfl), am_na 2 - 1, rfl, by unfold am_pn; decide +kernel⟩
theorem cl_10_15 : tb_CL 10 15 7 0 := ⟨lk_0, rfl, Or.inl (tb_1 18 rfl rfl), (tb_1 19 rfl rfl), rfl, rfl, am_na 0 - 1, rfl, by unfold am_pn; decide +kernel⟩
theorem cl_10_18 : tb_CL 10 18 7 24 := ⟨lk_24, rfl, Or.inl (tb_3 223 rfl rfl), (tb_3 224 rfl rfl), rfl, rfl, am_na 24 - 1, rfl, by unfold am_pn; decide +kernel⟩
theorem cl_10_21 : tb_CL 10 21 6 1 := ⟨lk_1, tb_C7, rfl, (tb_1 217 rfl rfl), (tb_1 218 rfl rfl), (tb_1 219 rfl rfl), am_na 1 - 1, rfl, by unfold am_pn; decide +kernel⟩
theorem cl_10_25 : tb_CL 10 25 6 28 := ⟨lk_28, tb_C8, rfl, (tb_4 102 rfl rfl), (tb_4 103 rfl rfl), (tb_4 104 rfl rfl), am_na 28 - 1, rfl, by unfold am_pn; decide +kernel⟩
theorem cl_10_26 : tb_CL 10 26 0 139 := Or.inl rfl
theorem cl_10_31 : tb_CL 10 31 6 29 := ⟨lk_29, tb_C8, rfl, (tb_4 108 rfl rfl), (tb_4 109 rfl rfl), (tb_4 110 rfl rfl), am_na 29 - 1, rfl, by unfold am_pn; decide +kernel⟩
theorem cl_10_32 : tb_CL 10 32 6 25 := ⟨lk_25, tb_C8, rfl, (tb_4 98 rfl rfl), (tb_4 99 rfl rfl), (tb_4 100 rfl rfl), am_na 25 - 1, rfl, by unfold am_pn; decide +kernel⟩
theorem cl_10_36 : tb_CL 10 36 6 3 := ⟨lk_3, tb_C7, rfl, (tb_1 233 rfl rfl), (tb_1 234 rfl rfl), (tb_1 235 rfl rfl), am_na 3 - 1, rfl, by unfold am_pn; decide +kernel⟩
theorem cl_10_40 : tb_CL 10 40 6 30 := ⟨lk_30, tb_C8, rfl, (tb_4 119 rfl rfl), (tb_4 120 rfl rfl), (tb_4 121 rfl rfl), am_na 30 - 1, rfl, by unfold am_pn; decide +kernel⟩
theorem cl_10_41 : tb_CL 10 41 6 4 := ⟨lk_4, tb_C7, rfl, (tb_2 17 rfl rfl), (tb_2 18 rfl rfl), (tb_2 19 rfl rfl), am_na 4 - 1, rfl, by unfold am_pn; decide +kernel⟩
theorem cl_10_45 : tb_CL 10 45 6 31 := ⟨lk_31, tb_C8, rfl, (tb_4 127 rfl rfl), (tb_4 128 rfl rfl), (tb_4 129 rfl rfl), am_na 31 - 1, rfl, by unfold am_pn; decide +kernel⟩
theorem cl_10_46 : tb_CL 10 46 6 5 := ⟨lk_5, tb_C7, rfl, (tb_2 38 rfl rfl), (tb_2 39 rfl rfl), (tb_2 40 rfl rfl), am_na 5 - 1, rfl, by unfold am_pn; decide +kernel⟩
theorem cl_10_50 : tb_CL 10 50 6 47 := ⟨lk_47, tb_C8, rfl, (tb_4 136 rfl rfl), (tb_4 137 rfl rfl), (tb_4 138 rfl rfl), am_na 47 - 1, rfl, by unfold am_pn; decide +kernel⟩
theorem cl_10_51 : tb_CL 10 51 6 6 := ⟨lk_6, tb_C7, rfl, (tb_2 218 rfl rfl), (tb_2 219 rfl rfl), (tb_2 220 rfl rfl), am_na 6 - 1, rfl, by unfold am_pn; decide +kernel⟩
theorem cl_10_55 : tb_CL 10 55 6 50 := ⟨lk_50, tb_C8, rfl, (tb_4 205 rfl rfl), (tb_4 206 rfl rfl), (tb_4 207 rfl rfl), am_na 50 - 1, rfl, by unfold am_pn; decide +kernel⟩
theorem cl_10_56 : tb_CL 10 56 6 7 := ⟨lk_7, tb_C7, rfl, (tb_2 229 rfl rfl), (tb_2 230 rfl rfl), (tb_2 231 rfl rfl), am_na 7 - 1, rfl, by unfold am_pn; decide +kernel⟩
theorem cl_10_60 : tb_CL 10 60 6 51 := ⟨lk_51, tb_C8, rfl, (tb_4 209 rfl rfl), (tb_4 210 rfl rfl), (tb_4 211 rfl rfl), am_na 51 - 1, rfl, by unfold am_pn; decide +kernel⟩
theorem cl_10_61 : tb_CL 10 61 6 8 := ⟨lk_8, tb_C7, rfl, (tb_3 2 rfl rfl), (tb_3 3 rfl rfl), (tb_3 4 rfl rfl), am_na 8 - 1, rfl, by unfold am_pn; decide +kernel⟩
theorem cl_10_65 : tb_CL 10 65 6 56 := ⟨lk_56, tb_C8, rfl, (tb_4 223 rfl rfl), (tb_4 224 rfl rfl), (tb_4 225 rfl rfl), am_na 56 - 1, rfl, by unfold am_pn; decide +kernel⟩
theorem cl_10_66 : tb_CL 10 66 6 9 := ⟨lk_9, tb_C7, rfl, (tb_3 39 rfl rfl), (tb_3 40 rfl rfl), (tb_3 41 rfl rfl), am_na 9 - 1, rfl, by unfold am_pn; decide +kernel⟩
theorem cl_10_70 : tb_CL 10 70 6 32 := ⟨lk_32, tb_C8, rfl, (tb_4 132 rfl rfl), (tb_4 133 rfl rfl), (tb_4 134 rfl rfl), am_na 32 - 1, rfl, by unfold am_pn; decide +kernel⟩
theorem cl_10_71 : tb_CL 10 71 6 10 := ⟨lk_10, tb_C7, rfl, (tb_3 52 rfl rfl), (tb_3 53 rfl rfl), (tb_3 54 rfl rfl), am_na 10 - 1, rfl, by unfold am_pn; decide +kernel⟩
theorem cl_10_75 : tb_CL 10 75 6 49 := ⟨lk_49, tb_C8, rfl, (tb_4 197 rfl rfl), (tb_4 198 rfl rfl), (tb_4 199 rfl rfl), am_na 49 - 1, rfl, by unfold am_pn; decide +kernel⟩
theorem cl_10_76 : tb_CL 10 76 6 11 := ⟨lk_11, tb_C7, rfl, (tb_3 75 rfl rfl), (tb_3 76 rfl rfl), (tb_3 77 rfl rfl), am_na 11 - 1, rfl, by unfold am_pn; decide +kernel⟩
theorem cl_10_80 : tb_CL 10 80 6 53 := ⟨lk_53, tb_C8, rfl, (tb_4 217 rfl rfl), (tb_4 218 rfl rfl), (tb_4 219 rfl rfl), am_na 53 - 1, rfl, by unfold am_pn; decide +kernel⟩
theorem cl_10_81 : tb_CL 10 81 6 12 := ⟨lk_12, tb_C7, rfl, (tb_3 94 rfl rfl), (tb_3 95 rfl rfl), (tb_3 96 rfl rfl), am_na 12 - 1, rfl, by unfold am_pn; decide +kernel⟩
theorem cl_10_84 : tb_CL 10 84 6 58 := ⟨lk_58, tb_C8, rfl, (tb_4 237 rfl rfl), (tb_4 238 rfl rfl), (tb_4 239 rfl rfl), am_na 58 - 1, rfl, by unfold am_pn; decide +kernel⟩
theorem cl_10_85 : tb_CL 10 85 6 13 := ⟨lk_13, tb_C7, rfl, (tb_3 126 rfl rfl), (tb_3 127 rfl rfl), (tb_3 128 rfl rfl), am_na 13 - 1, rfl, by unfold am_pn; decide +kernel⟩
theorem cl_10_88 : tb_CL 10 88 6 52 := ⟨lk_52, tb_C8, rfl, (tb_4 213 rfl rfl), (tb_4 214 rfl rfl), (tb_4 215 rfl rfl), am_na 52 - 1, rfl, by unfold am_pn; decide +kernel⟩
theorem cl_10_89 : tb_CL 10 89 6 14 := ⟨lk_14, tb_C7, rfl, (tb_3 130 rfl rfl), (tb_3 131 rfl rfl), (tb_3 132 rfl rfl), am_na 14 - 1, rfl, by unfold am_pn; decide +kernel⟩
theorem cl_10_92 : tb_CL 10 92 6 59 := ⟨lk_59, tb_C8, rfl, (tb_5 4 rfl rfl), (tb_5 5 rfl rfl), (tb_5 6 rfl rfl), am_na 59 - 1, rfl, by unfold am_pn; decide +kernel⟩
set_option maxRecDepth 20000 in
theorem tb_cl : ∀ (own : Nat), ∀ q ∈ am_rmL own, tb_CL own q.1 q.2.1 q.2.2 := by
  intro own
  match own with
  | 0 =>
    exact List.forall_mem_cons.mpr ⟨cl_0_3, List.forall_mem_cons.mpr ⟨cl_0_28, List.forall_mem_cons.mpr ⟨cl_0_32, fun _ h => (List.not_mem_nil h).elim⟩⟩⟩
  | 1 =>
    exact List.forall_mem_cons.mpr ⟨cl_1_3, fun _ h => (List.not_mem_nil h).elim⟩
  | 2 =>
    exact List.forall_mem_cons.mpr ⟨cl_2_1, List.forall_mem_cons.mpr ⟨cl_2_17, List.forall_mem_cons.mpr ⟨cl_2_21, fun _ h => (List.not_mem_nil h).elim⟩⟩⟩
  | 3 =>
    exact List.forall_mem_cons.mpr ⟨cl_3_3, List.forall_mem_cons.mpr ⟨cl_3_27, List.forall_mem_cons.mpr ⟨cl_3_33, fun _ h => (List.not_mem_nil h).elim⟩⟩⟩
  | 4 =>
    exact List.forall_mem_cons.mpr ⟨cl_4_3, fun _ h => (List.not_mem_nil h).elim⟩
  | 5 =>
    exact List.forall_mem_cons.mpr ⟨cl_5_3, List.forall_mem_cons.mpr ⟨cl_5_27, List.forall_mem_cons.mpr ⟨cl_5_33, fun _ h => (List.not_mem_nil h).elim⟩⟩⟩
  | 6 =>
    exact List.forall_mem_cons.mpr ⟨cl_6_3, List.forall_mem_cons.mpr ⟨cl_6_11, List.forall_mem_cons.mpr ⟨cl_6_56, List.forall_mem_cons.mpr ⟨cl_6_62, List.forall_mem_cons.mpr ⟨cl_6_68, List.forall_mem_cons.mpr ⟨cl_6_74, List.forall_mem_cons.mpr ⟨cl_6_75, List.forall_mem_cons.mpr ⟨cl_6_79, List.forall_mem_cons.mpr ⟨cl_6_84, List.forall_mem_cons.mpr ⟨cl_6_88, List.forall_mem_cons.mpr ⟨cl_6_93, List.forall_mem_cons.mpr ⟨cl_6_97, List.forall_mem_cons.mpr ⟨cl_6_100, List.forall_mem_cons.mpr ⟨cl_6_103, List.forall_mem_cons.mpr ⟨cl_6_108, List.forall_mem_cons.mpr ⟨cl_6_112, List.forall_mem_cons.mpr ⟨cl_6_115, List.forall_mem_cons.mpr ⟨cl_6_118, List.forall_mem_cons.mpr ⟨cl_6_121, List.forall_mem_cons.mpr ⟨cl_6_125, List.forall_mem_cons.mpr ⟨cl_6_128, List.forall_mem_cons.mpr ⟨cl_6_131, List.forall_mem_cons.mpr ⟨cl_6_134, List.forall_mem_cons.mpr ⟨cl_6_138, List.forall_mem_cons.mpr ⟨cl_6_141, List.forall_mem_cons.mpr ⟨cl_6_145, List.forall_mem_cons.mpr ⟨cl_6_148, List.forall_mem_cons.mpr ⟨cl_6_152, List.forall_mem_cons.mpr ⟨cl_6_155, List.forall_mem_cons.mpr ⟨cl_6_158, List.forall_mem_cons.mpr ⟨cl_6_161, List.forall_mem_cons.mpr ⟨cl_6_164, List.forall_mem_cons.mpr ⟨cl_6_168, List.forall_mem_cons.mpr ⟨cl_6_171, List.forall_mem_cons.mpr ⟨cl_6_175, List.forall_mem_cons.mpr ⟨cl_6_179, List.forall_mem_cons.mpr ⟨cl_6_182, List.forall_mem_cons.mpr ⟨cl_6_186, List.forall_mem_cons.mpr ⟨cl_6_192, List.forall_mem_cons.mpr ⟨cl_6_196, fun _ h => (List.not_mem_nil h).elim⟩⟩⟩⟩⟩⟩⟩⟩⟩⟩⟩⟩⟩⟩⟩⟩⟩⟩⟩⟩⟩⟩⟩⟩⟩⟩⟩⟩⟩⟩⟩⟩⟩⟩⟩⟩⟩⟩⟩⟩
  | 7 =>
    exact List.forall_mem_cons.mpr ⟨cl_7_5, List.forall_mem_cons.mpr ⟨cl_7_13, List.forall_mem_cons.mpr ⟨cl_7_20, List.forall_mem_cons.mpr ⟨cl_7_27, List.forall_mem_cons.mpr ⟨cl_7_36, List.forall_mem_cons.mpr ⟨cl_7_43, List.forall_mem_cons.mpr ⟨cl_7_50, List.forall_mem_cons.mpr ⟨cl_7_72, List.forall_mem_cons.mpr ⟨cl_7_76, List.forall_mem_cons.mpr ⟨cl_7_80, List.forall_mem_cons.mpr ⟨cl_7_84, List.forall_mem_cons.mpr ⟨cl_7_92, List.forall_mem_cons.mpr ⟨cl_7_100, List.forall_mem_cons.mpr ⟨cl_7_103, List.forall_mem_cons.mpr ⟨cl_7_104, List.forall_mem_cons.mpr ⟨cl_7_108, List.forall_mem_cons.mpr ⟨cl_7_111, List.forall_mem_cons.mpr ⟨cl_7_115, List.forall_mem_cons.mpr ⟨cl_7_121, List.forall_mem_cons.mpr ⟨cl_7_125, List.forall_mem_cons.mpr ⟨cl_7_131, List.forall_mem_cons.mpr ⟨cl_7_135, List.forall_mem_cons.mpr ⟨cl_7_138, List.forall_mem_cons.mpr ⟨cl_7_141, List.forall_mem_cons.mpr ⟨cl_7_144, List.forall_mem_cons.mpr ⟨cl_7_147, List.forall_mem_cons.mpr ⟨cl_7_150, List.forall_mem_cons.mpr ⟨cl_7_153, List.forall_mem_cons.mpr ⟨cl_7_163, List.forall_mem_cons.mpr ⟨cl_7_166, List.forall_mem_cons.mpr ⟨cl_7_169, List.forall_mem_cons.mpr ⟨cl_7_173, List.forall_mem_cons.mpr ⟨cl_7_177, List.forall_mem_cons.mpr ⟨cl_7_181, List.forall_mem_cons.mpr ⟨cl_7_185, List.forall_mem_cons.mpr ⟨cl_7_189, List.forall_mem_cons.mpr ⟨cl_7_192, List.forall_mem_cons.mpr ⟨cl_7_195, List.forall_mem_cons.mpr ⟨cl_7_198, List.forall_mem_cons.mpr ⟨cl_7_199, List.forall_mem_cons.mpr ⟨cl_7_202, List.forall_mem_cons.mpr ⟨cl_7_203, List.forall_mem_cons.mpr ⟨cl_7_206, List.forall_mem_cons.mpr ⟨cl_7_209, List.forall_mem_cons.mpr ⟨cl_7_213, List.forall_mem_cons.mpr ⟨cl_7_217, List.forall_mem_cons.mpr ⟨cl_7_220, List.forall_mem_cons.mpr ⟨cl_7_224, List.forall_mem_cons.mpr ⟨cl_7_227, List.forall_mem_cons.mpr ⟨cl_7_231, List.forall_mem_cons.mpr ⟨cl_7_234, List.forall_mem_cons.mpr ⟨cl_7_237, List.forall_mem_cons.mpr ⟨cl_7_240, List.forall_mem_cons.mpr ⟨cl_7_246, List.forall_mem_cons.mpr ⟨cl_7_249, fun _ h => (List.not_mem_nil h).elim⟩⟩⟩⟩⟩⟩⟩⟩⟩⟩⟩⟩⟩⟩⟩⟩⟩⟩⟩⟩⟩⟩⟩⟩⟩⟩⟩⟩⟩⟩⟩⟩⟩⟩⟩⟩⟩⟩⟩⟩⟩⟩⟩⟩⟩⟩⟩⟩⟩⟩⟩⟩⟩⟩⟩
  | 8 =>
    exact List.forall_mem_cons.mpr ⟨cl_8_1, List.forall_mem_cons.mpr ⟨cl_8_95, List.forall_mem_cons.mpr ⟨cl_8_105, List.forall_mem_cons.mpr ⟨cl_8_116, List.forall_mem_cons.mpr ⟨cl_8_120, List.forall_mem_cons.mpr ⟨cl_8_124, List.forall_mem_cons.mpr ⟨cl_8_127, List.forall_mem_cons.mpr ⟨cl_8_134, List.forall_mem_cons.mpr ⟨cl_8_137, List.forall_mem_cons.mpr ⟨cl_8_141, List.forall_mem_cons.mpr ⟨cl_8_148, List.forall_mem_cons.mpr ⟨cl_8_157, List.forall_mem_cons.mpr ⟨cl_8_164, List.forall_mem_cons.mpr ⟨cl_8_167, List.forall_mem_cons.mpr ⟨cl_8_170, List.forall_mem_cons.mpr ⟨cl_8_178, List.forall_mem_cons.mpr ⟨cl_8_182, List.forall_mem_cons.mpr ⟨cl_8_185, List.forall_mem_cons.mpr ⟨cl_8_195, List.forall_mem_cons.mpr ⟨cl_8_199, List.forall_mem_cons.mpr ⟨cl_8_210, fun _ h => (List.not_mem_nil h).elim⟩⟩⟩⟩⟩⟩⟩⟩⟩⟩⟩⟩⟩⟩⟩⟩⟩⟩⟩⟩⟩
  | 9 =>
    exact List.forall_mem_cons.mpr ⟨cl_9_9, fun _ h => (List.not_mem_nil h).elim⟩
  | 10 =>
    exact List.forall_mem_cons.mpr ⟨cl_10_7, List.forall_mem_cons.mpr ⟨cl_10_15, List.forall_mem_cons.mpr ⟨cl_10_18, List.forall_mem_cons.mpr ⟨cl_10_21, List.forall_mem_cons.mpr ⟨cl_10_25, List.forall_mem_cons.mpr ⟨cl_10_26, List.forall_mem_cons.mpr ⟨cl_10_31, List.forall_mem_cons.mpr ⟨cl_10_32, List.forall_mem_cons.mpr ⟨cl_10_36, List.forall_mem_cons.mpr ⟨cl_10_40, List.forall_mem_cons.mpr ⟨cl_10_41, List.forall_mem_cons.mpr ⟨cl_10_45, List.forall_mem_cons.mpr ⟨cl_10_46, List.forall_mem_cons.mpr ⟨cl_10_50, List.forall_mem_cons.mpr ⟨cl_10_51, List.forall_mem_cons.mpr ⟨cl_10_55, List.forall_mem_cons.mpr ⟨cl_10_56, List.forall_mem_cons.mpr ⟨cl_10_60, List.forall_mem_cons.mpr ⟨cl_10_61, List.forall_mem_cons.mpr ⟨cl_10_65, List.forall_mem_cons.mpr ⟨cl_10_66, List.forall_mem_cons.mpr ⟨cl_10_70, List.forall_mem_cons.mpr ⟨cl_10_71, List.forall_mem_cons.mpr ⟨cl_10_75, List.forall_mem_cons.mpr ⟨cl_10_76, List.forall_mem_cons.mpr ⟨cl_10_80, List.forall_mem_cons.mpr ⟨cl_10_81, List.forall_mem_cons.mpr ⟨cl_10_84, List.forall_mem_cons.mpr ⟨cl_10_85, List.forall_mem_cons.mpr ⟨cl_10_88, List.forall_mem_cons.mpr ⟨cl_10_89, List.forall_mem_cons.mpr ⟨cl_10_92, fun _ h => (List.not_mem_nil h).elim⟩⟩⟩⟩⟩⟩⟩⟩⟩⟩⟩⟩⟩⟩⟩⟩⟩⟩⟩⟩⟩⟩⟩⟩⟩⟩⟩⟩⟩⟩⟩⟩
  | n + 11 => exact fun _ h => (List.not_mem_nil h).elim
theorem tb_rm {own x kd k : Nat} (h : am_rm own x = (kd, k)) (hk : kd ≠ 9) : tb_CL own x kd k := by
  unfold am_rm at h
  cases hl : (am_rmL own).lookup x with
  | none => rw [hl] at h; cases h; exact absurd rfl hk
  | some v =>
    rw [hl] at h
    have h : v = (kd, k) := h
    subst h
    exact tb_cl own _ (tb_lk hl)
/-- the rows of calls of the law's own street() are not among these -/
def am_FXs : Prop := ∀ own x, am_rm own x = (0, am_lst) → own = am_ow am_law
theorem tb_arr : ∀ t, t < 3 → Cond.arrayClass (am_at t) ∈ am_tbl := by
  intro t ht
  match t, ht with
  | 0, _ => exact (tb_1 78 rfl rfl)
  | 1, _ => exact (tb_4 97 rfl rfl)
  | 2, _ => exact (tb_1 43 rfl rfl)
theorem tb_FX : am_FX := by
  refine ⟨fun own x c k h => ?_, fun own x c h => ?_, tb_arr, fun own x k h hk => ?_, fun own x k h => tb_rm h (by decide), fun own x k h => tb_rm h (by decide), fun own x v h => ?_, fun own x k h => tb_rm h (by decide), (tb_1 22 rfl rfl), (tb_1 23 rfl rfl), fun own x k h => tb_rm h (by decide), fun own x k h => tb_rm h (by decide), fun own x k h => tb_rm h (by decide), fun own x k h => tb_rm h (by decide)⟩
  · exact tb_fo own _ (tb_lk h)
  · exact tb_no own _ (tb_lk h)
  · exact (show k = am_lst ∨ am_LS own x k from tb_rm h (by decide)).resolve_left hk
  · exact tb_kl own _ (tb_lk h)
theorem tb_sound (l : Launch) (D : va_G) (d k : Nat) (as : List Value) (h : am_H) (Z : Option Value → am_H → Prop) (e : am_call d k as h Z) : am_MM l D k as h Z := am_sound tb_FX (fun k hk => ⟨lk_all k hk, ck_all k hk⟩) l D d k as h Z e
end
section
/-! THE TABLES LOOKED UP (printed by wip/gen/look.py) -/
theorem ow_0 : am_ow 0 = 7 := rfl
theorem ow_1 : am_ow 1 = 7 := rfl
theorem ow_2 : am_ow 2 = 7 := rfl
theorem ow_3 : am_ow 3 = 7 := rfl
theorem ow_4 : am_ow 4 = 7 := rfl
theorem ow_5 : am_ow 5 = 7 := rfl
theorem ow_6 : am_ow 6 = 7 := rfl
theorem ow_7 : am_ow 7 = 7 := rfl
theorem ow_8 : am_ow 8 = 7 := rfl
theorem ow_9 : am_ow 9 = 7 := rfl
theorem ow_10 : am_ow 10 = 7 := rfl
theorem ow_11 : am_ow 11 = 7 := rfl
theorem ow_12 : am_ow 12 = 7 := rfl
theorem ow_13 : am_ow 13 = 7 := rfl
theorem ow_14 : am_ow 14 = 7 := rfl
theorem ow_15 : am_ow 15 = 7 := rfl
theorem ow_16 : am_ow 16 = 7 := rfl
theorem ow_17 : am_ow 17 = 7 := rfl
theorem ow_18 : am_ow 18 = 7 := rfl
theorem ow_19 : am_ow 19 = 7 := rfl
theorem ow_20 : am_ow 20 = 7 := rfl
theorem ow_21 : am_ow 21 = 7 := rfl
theorem ow_22 : am_ow 22 = 7 := rfl
theorem ow_23 : am_ow 23 = 7 := rfl
theorem ow_24 : am_ow 24 = 8 := rfl
theorem ow_25 : am_ow 25 = 8 := rfl
theorem ow_26 : am_ow 26 = 8 := rfl
theorem ow_27 : am_ow 27 = 8 := rfl
theorem ow_28 : am_ow 28 = 8 := rfl
theorem ow_29 : am_ow 29 = 8 := rfl
theorem ow_30 : am_ow 30 = 8 := rfl
theorem ow_31 : am_ow 31 = 8 := rfl
theorem ow_32 : am_ow 32 = 8 := rfl
theorem ow_33 : am_ow 33 = 8 := rfl
theorem ow_34 : am_ow 34 = 8 := rfl
theorem ow_35 : am_ow 35 = 8 := rfl
theorem ow_36 : am_ow 36 = 8 := rfl
theorem ow_37 : am_ow 37 = 8 := rfl
theorem ow_38 : am_ow 38 = 8 := rfl
theorem ow_39 : am_ow 39 = 8 := rfl
theorem ow_40 : am_ow 40 = 8 := rfl
theorem ow_41 : am_ow 41 = 8 := rfl
theorem ow_42 : am_ow 42 = 8 := rfl
theorem ow_43 : am_ow 43 = 8 := rfl
theorem ow_44 : am_ow 44 = 8 := rfl
theorem ow_45 : am_ow 45 = 8 := rfl
theorem ow_46 : am_ow 46 = 8 := rfl
theorem ow_47 : am_ow 47 = 8 := rfl
theorem ow_48 : am_ow 48 = 8 := rfl
theorem ow_49 : am_ow 49 = 8 := rfl
theorem ow_50 : am_ow 50 = 8 := rfl
theorem ow_51 : am_ow 51 = 8 := rfl
theorem ow_52 : am_ow 52 = 8 := rfl
theorem ow_53 : am_ow 53 = 8 := rfl
theorem ow_54 : am_ow 54 = 8 := rfl
theorem ow_55 : am_ow 55 = 8 := rfl
theorem ow_56 : am_ow 56 = 8 := rfl
theorem ow_57 : am_ow 57 = 8 := rfl
theorem ow_58 : am_ow 58 = 8 := rfl
theorem ow_59 : am_ow 59 = 8 := rfl
theorem ow_60 : am_ow 60 = 0 := rfl
theorem ow_61 : am_ow 61 = 0 := rfl
theorem ow_62 : am_ow 62 = 0 := rfl
theorem ow_63 : am_ow 63 = 0 := rfl
theorem ow_64 : am_ow 64 = 0 := rfl
theorem ow_65 : am_ow 65 = 0 := rfl
theorem ow_66 : am_ow 66 = 0 := rfl
theorem ow_67 : am_ow 67 = 9 := rfl
theorem ow_68 : am_ow 68 = 9 := rfl
theorem ow_69 : am_ow 69 = 9 := rfl
theorem ow_70 : am_ow 70 = 1 := rfl
theorem ow_71 : am_ow 71 = 1 := rfl
theorem ow_72 : am_ow 72 = 2 := rfl
theorem ow_73 : am_ow 73 = 2 := rfl
theorem ow_74 : am_ow 74 = 2 := rfl
theorem ow_75 : am_ow 75 = 2 := rfl
theorem ow_76 : am_ow 76 = 2 := rfl
theorem ow_77 : am_ow 77 = 2 := rfl
theorem ow_78 : am_ow 78 = 2 := rfl
theorem ow_79 : am_ow 79 = 2 := rfl
theorem ow_80 : am_ow 80 = 3 := rfl
theorem ow_81 : am_ow 81 = 3 := rfl
theorem ow_82 : am_ow 82 = 3 := rfl
theorem ow_83 : am_ow 83 = 3 := rfl
theorem ow_84 : am_ow 84 = 3 := rfl
theorem ow_85 : am_ow 85 = 3 := rfl
theorem ow_86 : am_ow 86 = 3 := rfl
theorem ow_87 : am_ow 87 = 3 := rfl
theorem ow_88 : am_ow 88 = 3 := rfl
theorem ow_89 : am_ow 89 = 3 := rfl
theorem ow_90 : am_ow 90 = 3 := rfl
theorem ow_91 : am_ow 91 = 3 := rfl
theorem ow_92 : am_ow 92 = 4 := rfl
theorem ow_93 : am_ow 93 = 4 := rfl
theorem ow_94 : am_ow 94 = 4 := rfl
theorem ow_95 : am_ow 95 = 4 := rfl
theorem ow_96 : am_ow 96 = 4 := rfl
theorem ow_97 : am_ow 97 = 4 := rfl
theorem ow_98 : am_ow 98 = 4 := rfl
theorem ow_99 : am_ow 99 = 4 := rfl
theorem ow_100 : am_ow 100 = 4 := rfl
theorem ow_101 : am_ow 101 = 4 := rfl
theorem ow_102 : am_ow 102 = 4 := rfl
theorem ow_103 : am_ow 103 = 4 := rfl
theorem ow_104 : am_ow 104 = 4 := rfl
theorem ow_105 : am_ow 105 = 4 := rfl
theorem ow_106 : am_ow 106 = 4 := rfl
theorem ow_107 : am_ow 107 = 5 := rfl
theorem ow_108 : am_ow 108 = 5 := rfl
theorem ow_109 : am_ow 109 = 5 := rfl
theorem ow_110 : am_ow 110 = 5 := rfl
theorem ow_111 : am_ow 111 = 5 := rfl
theorem ow_112 : am_ow 112 = 5 := rfl
theorem ow_113 : am_ow 113 = 5 := rfl
theorem ow_114 : am_ow 114 = 5 := rfl
theorem ow_115 : am_ow 115 = 5 := rfl
theorem ow_116 : am_ow 116 = 5 := rfl
theorem ow_117 : am_ow 117 = 6 := rfl
theorem ow_118 : am_ow 118 = 6 := rfl
theorem ow_119 : am_ow 119 = 6 := rfl
theorem ow_120 : am_ow 120 = 6 := rfl
theorem ow_121 : am_ow 121 = 6 := rfl
theorem ow_122 : am_ow 122 = 6 := rfl
theorem ow_123 : am_ow 123 = 6 := rfl
theorem ow_124 : am_ow 124 = 6 := rfl
theorem ow_125 : am_ow 125 = 6 := rfl
theorem ow_126 : am_ow 126 = 6 := rfl
theorem ow_127 : am_ow 127 = 6 := rfl
theorem ow_128 : am_ow 128 = 6 := rfl
theorem ow_129 : am_ow 129 = 6 := rfl
theorem ow_130 : am_ow 130 = 6 := rfl
theorem ow_131 : am_ow 131 = 6 := rfl
theorem ow_132 : am_ow 132 = 6 := rfl
theorem ow_133 : am_ow 133 = 6 := rfl
theorem ow_134 : am_ow 134 = 6 := rfl
theorem ow_135 : am_ow 135 = 6 := rfl
theorem ow_136 : am_ow 136 = 6 := rfl
theorem ow_137 : am_ow 137 = 6 := rfl
theorem ow_138 : am_ow 138 = 6 := rfl
theorem ow_139 : am_ow 139 = 10 := rfl
theorem ow_140 : am_ow 140 = 10 := rfl
theorem na_0 : am_na 0 = 1 := rfl
theorem mc_0 : am_mc 0 = 30 := rfl
theorem ms_0 : am_ms 0 = 14185 := rfl
theorem rt_0 : am_rt 0 = 3 := rfl
theorem mL_0 : am_mL 0 = 1 := rfl
theorem na_1 : am_na 1 = 3 := rfl
theorem mc_1 : am_mc 1 = 0 := rfl
theorem ms_1 : am_ms 1 = 0 := rfl
theorem rt_1 : am_rt 1 = 0 := rfl
theorem mL_1 : am_mL 1 = 5 := rfl
theorem na_2 : am_na 2 = 6 := rfl
theorem mc_2 : am_mc 2 = 0 := rfl
theorem ms_2 : am_ms 2 = 0 := rfl
theorem rt_2 : am_rt 2 = 0 := rfl
theorem mL_2 : am_mL 2 = 8 := rfl
theorem na_3 : am_na 3 = 4 := rfl
theorem mc_3 : am_mc 3 = 0 := rfl
theorem ms_3 : am_ms 3 = 0 := rfl
theorem rt_3 : am_rt 3 = 0 := rfl
theorem mL_3 : am_mL 3 = 4 := rfl
theorem na_4 : am_na 4 = 3 := rfl
theorem mc_4 : am_mc 4 = 0 := rfl
theorem ms_4 : am_ms 4 = 0 := rfl
theorem rt_4 : am_rt 4 = 0 := rfl
theorem mL_4 : am_mL 4 = 4 := rfl
theorem na_5 : am_na 5 = 5 := rfl
theorem mc_5 : am_mc 5 = 0 := rfl
theorem ms_5 : am_ms 5 = 0 := rfl
theorem rt_5 : am_rt 5 = 0 := rfl
theorem mL_5 : am_mL 5 = 6 := rfl
theorem na_6 : am_na 6 = 2 := rfl
theorem mc_6 : am_mc 6 = 0 := rfl
theorem ms_6 : am_ms 6 = 0 := rfl
theorem rt_6 : am_rt 6 = 0 := rfl
theorem mL_6 : am_mL 6 = 2 := rfl
theorem na_7 : am_na 7 = 1 := rfl
theorem mc_7 : am_mc 7 = 0 := rfl
theorem ms_7 : am_ms 7 = 0 := rfl
theorem rt_7 : am_rt 7 = 2 := rfl
theorem mL_7 : am_mL 7 = 1 := rfl
theorem na_8 : am_na 8 = 4 := rfl
theorem mc_8 : am_mc 8 = 0 := rfl
theorem ms_8 : am_ms 8 = 0 := rfl
theorem rt_8 : am_rt 8 = 0 := rfl
theorem mL_8 : am_mL 8 = 12 := rfl
theorem na_9 : am_na 9 = 4 := rfl
theorem mc_9 : am_mc 9 = 0 := rfl
theorem ms_9 : am_ms 9 = 0 := rfl
theorem rt_9 : am_rt 9 = 0 := rfl
theorem mL_9 : am_mL 9 = 6 := rfl
theorem na_10 : am_na 10 = 2 := rfl
theorem mc_10 : am_mc 10 = 0 := rfl
theorem ms_10 : am_ms 10 = 0 := rfl
theorem rt_10 : am_rt 10 = 0 := rfl
theorem mL_10 : am_mL 10 = 3 := rfl
theorem na_11 : am_na 11 = 3 := rfl
theorem mc_11 : am_mc 11 = 0 := rfl
theorem ms_11 : am_ms 11 = 0 := rfl
theorem rt_11 : am_rt 11 = 0 := rfl
theorem mL_11 : am_mL 11 = 3 := rfl
theorem na_12 : am_na 12 = 2 := rfl
theorem mc_12 : am_mc 12 = 0 := rfl
theorem ms_12 : am_ms 12 = 0 := rfl
theorem rt_12 : am_rt 12 = 0 := rfl
theorem mL_12 : am_mL 12 = 2 := rfl
theorem na_13 : am_na 13 = 1 := rfl
theorem mc_13 : am_mc 13 = 0 := rfl
theorem ms_13 : am_ms 13 = 0 := rfl
theorem rt_13 : am_rt 13 = 0 := rfl
theorem mL_13 : am_mL 13 = 1 := rfl
theorem na_14 : am_na 14 = 3 := rfl
theorem mc_14 : am_mc 14 = 0 := rfl
theorem ms_14 : am_ms 14 = 0 := rfl
theorem rt_14 : am_rt 14 = 0 := rfl
theorem mL_14 : am_mL 14 = 3 := rfl
theorem na_15 : am_na 15 = 2 := rfl
theorem mc_15 : am_mc 15 = 0 := rfl
theorem ms_15 : am_ms 15 = 0 := rfl
theorem rt_15 : am_rt 15 = 1 := rfl
theorem mL_15 : am_mL 15 = 4 := rfl
theorem na_16 : am_na 16 = 1 := rfl
theorem mc_16 : am_mc 16 = 0 := rfl
theorem ms_16 : am_ms 16 = 0 := rfl
theorem rt_16 : am_rt 16 = 1 := rfl
theorem mL_16 : am_mL 16 = 2 := rfl
theorem na_17 : am_na 17 = 1 := rfl
theorem mc_17 : am_mc 17 = 0 := rfl
theorem ms_17 : am_ms 17 = 0 := rfl
theorem rt_17 : am_rt 17 = 3 := rfl
theorem mL_17 : am_mL 17 = 2 := rfl
theorem na_18 : am_na 18 = 2 := rfl
theorem mc_18 : am_mc 18 = 0 := rfl
theorem ms_18 : am_ms 18 = 0 := rfl
theorem rt_18 : am_rt 18 = 1 := rfl
theorem mL_18 : am_mL 18 = 5 := rfl
theorem na_19 : am_na 19 = 2 := rfl
theorem mc_19 : am_mc 19 = 0 := rfl
theorem ms_19 : am_ms 19 = 0 := rfl
theorem rt_19 : am_rt 19 = 2 := rfl
theorem mL_19 : am_mL 19 = 2 := rfl
theorem na_20 : am_na 20 = 2 := rfl
theorem mc_20 : am_mc 20 = 0 := rfl
theorem ms_20 : am_ms 20 = 0 := rfl
theorem rt_20 : am_rt 20 = 2 := rfl
theorem mL_20 : am_mL 20 = 2 := rfl
theorem na_21 : am_na 21 = 3 := rfl
theorem mc_21 : am_mc 21 = 0 := rfl
theorem ms_21 : am_ms 21 = 0 := rfl
theorem rt_21 : am_rt 21 = 0 := rfl
theorem mL_21 : am_mL 21 = 3 := rfl
theorem na_22 : am_na 22 = 3 := rfl
theorem mc_22 : am_mc 22 = 0 := rfl
theorem ms_22 : am_ms 22 = 0 := rfl
theorem rt_22 : am_rt 22 = 1 := rfl
theorem mL_22 : am_mL 22 = 5 := rfl
theorem na_23 : am_na 23 = 4 := rfl
theorem mc_23 : am_mc 23 = 0 := rfl
theorem ms_23 : am_ms 23 = 0 := rfl
theorem rt_23 : am_rt 23 = 2 := rfl
theorem mL_23 : am_mL 23 = 7 := rfl
theorem na_24 : am_na 24 = 1 := rfl
theorem mc_24 : am_mc 24 = 20 := rfl
theorem ms_24 : am_ms 24 = 33659 := rfl
theorem rt_24 : am_rt 24 = 3 := rfl
theorem mL_24 : am_mL 24 = 1 := rfl
theorem na_25 : am_na 25 = 1 := rfl
theorem mc_25 : am_mc 25 = 0 := rfl
theorem ms_25 : am_ms 25 = 0 := rfl
theorem rt_25 : am_rt 25 = 0 := rfl
theorem mL_25 : am_mL 25 = 1 := rfl
theorem na_26 : am_na 26 = 2 := rfl
theorem mc_26 : am_mc 26 = 0 := rfl
theorem ms_26 : am_ms 26 = 0 := rfl
theorem rt_26 : am_rt 26 = 1 := rfl
theorem mL_26 : am_mL 26 = 2 := rfl
theorem na_27 : am_na 27 = 2 := rfl
theorem mc_27 : am_mc 27 = 0 := rfl
theorem ms_27 : am_ms 27 = 0 := rfl
theorem rt_27 : am_rt 27 = 1 := rfl
theorem mL_27 : am_mL 27 = 2 := rfl
theorem na_28 : am_na 28 = 3 := rfl
theorem mc_28 : am_mc 28 = 0 := rfl
theorem ms_28 : am_ms 28 = 0 := rfl
theorem rt_28 : am_rt 28 = 0 := rfl
theorem mL_28 : am_mL 28 = 5 := rfl
theorem na_29 : am_na 29 = 6 := rfl
theorem mc_29 : am_mc 29 = 0 := rfl
theorem ms_29 : am_ms 29 = 0 := rfl
theorem rt_29 : am_rt 29 = 0 := rfl
theorem mL_29 : am_mL 29 = 8 := rfl
theorem na_30 : am_na 30 = 4 := rfl
theorem mc_30 : am_mc 30 = 0 := rfl
theorem ms_30 : am_ms 30 = 0 := rfl
theorem rt_30 : am_rt 30 = 0 := rfl
theorem mL_30 : am_mL 30 = 5 := rfl
theorem na_31 : am_na 31 = 3 := rfl
theorem mc_31 : am_mc 31 = 0 := rfl
theorem ms_31 : am_ms 31 = 0 := rfl
theorem rt_31 : am_rt 31 = 0 := rfl
theorem mL_31 : am_mL 31 = 6 := rfl
theorem na_32 : am_na 32 = 4 := rfl
theorem mc_32 : am_mc 32 = 0 := rfl
theorem ms_32 : am_ms 32 = 0 := rfl
theorem rt_32 : am_rt 32 = 0 := rfl
theorem mL_32 : am_mL 32 = 8 := rfl
theorem na_33 : am_na 33 = 2 := rfl
theorem mc_33 : am_mc 33 = 0 := rfl
theorem ms_33 : am_ms 33 = 0 := rfl
theorem rt_33 : am_rt 33 = 2 := rfl
theorem mL_33 : am_mL 33 = 4 := rfl
theorem na_34 : am_na 34 = 2 := rfl
theorem mc_34 : am_mc 34 = 0 := rfl
theorem ms_34 : am_ms 34 = 0 := rfl
theorem rt_34 : am_rt 34 = 2 := rfl
theorem mL_34 : am_mL 34 = 2 := rfl
theorem na_35 : am_na 35 = 1 := rfl
theorem mc_35 : am_mc 35 = 0 := rfl
theorem ms_35 : am_ms 35 = 0 := rfl
theorem rt_35 : am_rt 35 = 0 := rfl
theorem mL_35 : am_mL 35 = 1 := rfl
theorem na_36 : am_na 36 = 2 := rfl
theorem mc_36 : am_mc 36 = 0 := rfl
theorem ms_36 : am_ms 36 = 0 := rfl
theorem rt_36 : am_rt 36 = 0 := rfl
theorem mL_36 : am_mL 36 = 2 := rfl
theorem na_37 : am_na 37 = 2 := rfl
theorem mc_37 : am_mc 37 = 0 := rfl
theorem ms_37 : am_ms 37 = 0 := rfl
theorem rt_37 : am_rt 37 = 0 := rfl
theorem mL_37 : am_mL 37 = 2 := rfl
theorem na_38 : am_na 38 = 4 := rfl
theorem mc_38 : am_mc 38 = 0 := rfl
theorem ms_38 : am_ms 38 = 0 := rfl
theorem rt_38 : am_rt 38 = 1 := rfl
theorem mL_38 : am_mL 38 = 4 := rfl
theorem na_39 : am_na 39 = 4 := rfl
theorem mc_39 : am_mc 39 = 0 := rfl
theorem ms_39 : am_ms 39 = 0 := rfl
theorem rt_39 : am_rt 39 = 1 := rfl
theorem mL_39 : am_mL 39 = 5 := rfl
theorem na_40 : am_na 40 = 1 := rfl
theorem mc_40 : am_mc 40 = 0 := rfl
theorem ms_40 : am_ms 40 = 0 := rfl
theorem rt_40 : am_rt 40 = 3 := rfl
theorem mL_40 : am_mL 40 = 9 := rfl
theorem na_41 : am_na 41 = 1 := rfl
theorem mc_41 : am_mc 41 = 0 := rfl
theorem ms_41 : am_ms 41 = 0 := rfl
theorem rt_41 : am_rt 41 = 3 := rfl
theorem mL_41 : am_mL 41 = 6 := rfl
theorem na_42 : am_na 42 = 2 := rfl
theorem mc_42 : am_mc 42 = 0 := rfl
theorem ms_42 : am_ms 42 = 0 := rfl
theorem rt_42 : am_rt 42 = 1 := rfl
theorem mL_42 : am_mL 42 = 7 := rfl
theorem na_43 : am_na 43 = 1 := rfl
theorem mc_43 : am_mc 43 = 0 := rfl
theorem ms_43 : am_ms 43 = 0 := rfl
theorem rt_43 : am_rt 43 = 1 := rfl
theorem mL_43 : am_mL 43 = 5 := rfl
theorem na_44 : am_na 44 = 2 := rfl
theorem mc_44 : am_mc 44 = 0 := rfl
theorem ms_44 : am_ms 44 = 0 := rfl
theorem rt_44 : am_rt 44 = 2 := rfl
theorem mL_44 : am_mL 44 = 2 := rfl
theorem na_45 : am_na 45 = 2 := rfl
theorem mc_45 : am_mc 45 = 0 := rfl
theorem ms_45 : am_ms 45 = 0 := rfl
theorem rt_45 : am_rt 45 = 3 := rfl
theorem mL_45 : am_mL 45 = 8 := rfl
theorem na_46 : am_na 46 = 1 := rfl
theorem mc_46 : am_mc 46 = 0 := rfl
theorem ms_46 : am_ms 46 = 0 := rfl
theorem rt_46 : am_rt 46 = 3 := rfl
theorem mL_46 : am_mL 46 = 2 := rfl
theorem na_47 : am_na 47 = 5 := rfl
theorem mc_47 : am_mc 47 = 0 := rfl
theorem ms_47 : am_ms 47 = 0 := rfl
theorem rt_47 : am_rt 47 = 0 := rfl
theorem mL_47 : am_mL 47 = 7 := rfl
theorem na_48 : am_na 48 = 1 := rfl
theorem mc_48 : am_mc 48 = 0 := rfl
theorem ms_48 : am_ms 48 = 0 := rfl
theorem rt_48 : am_rt 48 = 2 := rfl
theorem mL_48 : am_mL 48 = 8 := rfl
theorem na_49 : am_na 49 = 2 := rfl
theorem mc_49 : am_mc 49 = 0 := rfl
theorem ms_49 : am_ms 49 = 0 := rfl
theorem rt_49 : am_rt 49 = 0 := rfl
theorem mL_49 : am_mL 49 = 7 := rfl
theorem na_50 : am_na 50 = 2 := rfl
theorem mc_50 : am_mc 50 = 0 := rfl
theorem ms_50 : am_ms 50 = 0 := rfl
theorem rt_50 : am_rt 50 = 0 := rfl
theorem mL_50 : am_mL 50 = 2 := rfl
theorem na_51 : am_na 51 = 1 := rfl
theorem mc_51 : am_mc 51 = 0 := rfl
theorem ms_51 : am_ms 51 = 0 := rfl
theorem rt_51 : am_rt 51 = 2 := rfl
theorem mL_51 : am_mL 51 = 1 := rfl
theorem na_52 : am_na 52 = 1 := rfl
theorem mc_52 : am_mc 52 = 0 := rfl
theorem ms_52 : am_ms 52 = 0 := rfl
theorem rt_52 : am_rt 52 = 0 := rfl
theorem mL_52 : am_mL 52 = 1 := rfl
theorem na_53 : am_na 53 = 3 := rfl
theorem mc_53 : am_mc 53 = 0 := rfl
theorem ms_53 : am_ms 53 = 0 := rfl
theorem rt_53 : am_rt 53 = 0 := rfl
theorem mL_53 : am_mL 53 = 19 := rfl
theorem na_54 : am_na 54 = 2 := rfl
theorem mc_54 : am_mc 54 = 0 := rfl
theorem ms_54 : am_ms 54 = 0 := rfl
theorem rt_54 : am_rt 54 = 0 := rfl
theorem mL_54 : am_mL 54 = 4 := rfl
theorem na_55 : am_na 55 = 4 := rfl
theorem mc_55 : am_mc 55 = 0 := rfl
theorem ms_55 : am_ms 55 = 0 := rfl
theorem rt_55 : am_rt 55 = 2 := rfl
theorem mL_55 : am_mL 55 = 20 := rfl
theorem na_56 : am_na 56 = 4 := rfl
theorem mc_56 : am_mc 56 = 0 := rfl
theorem ms_56 : am_ms 56 = 0 := rfl
theorem rt_56 : am_rt 56 = 0 := rfl
theorem mL_56 : am_mL 56 = 15 := rfl
theorem na_57 : am_na 57 = 2 := rfl
theorem mc_57 : am_mc 57 = 0 := rfl
theorem ms_57 : am_ms 57 = 0 := rfl
theorem rt_57 : am_rt 57 = 0 := rfl
theorem mL_57 : am_mL 57 = 2 := rfl
theorem na_58 : am_na 58 = 2 := rfl
theorem mc_58 : am_mc 58 = 0 := rfl
theorem ms_58 : am_ms 58 = 0 := rfl
theorem rt_58 : am_rt 58 = 0 := rfl
theorem mL_58 : am_mL 58 = 6 := rfl
theorem na_59 : am_na 59 = 3 := rfl
theorem mc_59 : am_mc 59 = 0 := rfl
theorem ms_59 : am_ms 59 = 0 := rfl
theorem rt_59 : am_rt 59 = 0 := rfl
theorem mL_59 : am_mL 59 = 4 := rfl
theorem na_60 : am_na 60 = 1 := rfl
theorem mc_60 : am_mc 60 = 3 := rfl
theorem ms_60 : am_ms 60 = 7624 := rfl
theorem rt_60 : am_rt 60 = 3 := rfl
theorem mL_60 : am_mL 60 = 1 := rfl
theorem na_61 : am_na 61 = 2 := rfl
theorem mc_61 : am_mc 61 = 0 := rfl
theorem ms_61 : am_ms 61 = 0 := rfl
theorem rt_61 : am_rt 61 = 3 := rfl
theorem mL_61 : am_mL 61 = 3 := rfl
theorem na_62 : am_na 62 = 2 := rfl
theorem mc_62 : am_mc 62 = 0 := rfl
theorem ms_62 : am_ms 62 = 0 := rfl
theorem rt_62 : am_rt 62 = 2 := rfl
theorem mL_62 : am_mL 62 = 2 := rfl
theorem na_63 : am_na 63 = 3 := rfl
theorem mc_63 : am_mc 63 = 0 := rfl
theorem ms_63 : am_ms 63 = 0 := rfl
theorem rt_63 : am_rt 63 = 3 := rfl
theorem mL_63 : am_mL 63 = 4 := rfl
theorem na_64 : am_na 64 = 1 := rfl
theorem mc_64 : am_mc 64 = 0 := rfl
theorem ms_64 : am_ms 64 = 0 := rfl
theorem rt_64 : am_rt 64 = 0 := rfl
theorem mL_64 : am_mL 64 = 3 := rfl
theorem na_65 : am_na 65 = 2 := rfl
theorem mc_65 : am_mc 65 = 0 := rfl
theorem ms_65 : am_ms 65 = 0 := rfl
theorem rt_65 : am_rt 65 = 3 := rfl
theorem mL_65 : am_mL 65 = 5 := rfl
theorem na_66 : am_na 66 = 2 := rfl
theorem mc_66 : am_mc 66 = 0 := rfl
theorem ms_66 : am_ms 66 = 0 := rfl
theorem rt_66 : am_rt 66 = 3 := rfl
theorem mL_66 : am_mL 66 = 6 := rfl
theorem na_67 : am_na 67 = 4 := rfl
theorem mc_67 : am_mc 67 = 0 := rfl
theorem ms_67 : am_ms 67 = 0 := rfl
theorem rt_67 : am_rt 67 = 0 := rfl
theorem mL_67 : am_mL 67 = 14 := rfl
theorem na_68 : am_na 68 = 2 := rfl
theorem mc_68 : am_mc 68 = 0 := rfl
theorem ms_68 : am_ms 68 = 0 := rfl
theorem rt_68 : am_rt 68 = 0 := rfl
theorem mL_68 : am_mL 68 = 4 := rfl
theorem na_69 : am_na 69 = 4 := rfl
theorem mc_69 : am_mc 69 = 0 := rfl
theorem ms_69 : am_ms 69 = 0 := rfl
theorem rt_69 : am_rt 69 = 2 := rfl
theorem mL_69 : am_mL 69 = 14 := rfl
theorem na_70 : am_na 70 = 1 := rfl
theorem mc_70 : am_mc 70 = 0 := rfl
theorem ms_70 : am_ms 70 = 0 := rfl
theorem rt_70 : am_rt 70 = 3 := rfl
theorem mL_70 : am_mL 70 = 1 := rfl
theorem na_71 : am_na 71 = 3 := rfl
theorem mc_71 : am_mc 71 = 0 := rfl
theorem ms_71 : am_ms 71 = 0 := rfl
theorem rt_71 : am_rt 71 = 1 := rfl
theorem mL_71 : am_mL 71 = 3 := rfl
theorem na_72 : am_na 72 = 1 := rfl
theorem mc_72 : am_mc 72 = 1 := rfl
theorem ms_72 : am_ms 72 = 3 := rfl
theorem rt_72 : am_rt 72 = 3 := rfl
theorem mL_72 : am_mL 72 = 1 := rfl
theorem na_73 : am_na 73 = 2 := rfl
theorem mc_73 : am_mc 73 = 0 := rfl
theorem ms_73 : am_ms 73 = 0 := rfl
theorem rt_73 : am_rt 73 = 1 := rfl
theorem mL_73 : am_mL 73 = 2 := rfl
theorem na_74 : am_na 74 = 1 := rfl
theorem mc_74 : am_mc 74 = 0 := rfl
theorem ms_74 : am_ms 74 = 0 := rfl
theorem rt_74 : am_rt 74 = 1 := rfl
theorem mL_74 : am_mL 74 = 1 := rfl
theorem na_75 : am_na 75 = 1 := rfl
theorem mc_75 : am_mc 75 = 0 := rfl
theorem ms_75 : am_ms 75 = 0 := rfl
theorem rt_75 : am_rt 75 = 3 := rfl
theorem mL_75 : am_mL 75 = 1 := rfl
theorem na_76 : am_na 76 = 2 := rfl
theorem mc_76 : am_mc 76 = 0 := rfl
theorem ms_76 : am_ms 76 = 0 := rfl
theorem rt_76 : am_rt 76 = 3 := rfl
theorem mL_76 : am_mL 76 = 2 := rfl
theorem na_77 : am_na 77 = 2 := rfl
theorem mc_77 : am_mc 77 = 0 := rfl
theorem ms_77 : am_ms 77 = 0 := rfl
theorem rt_77 : am_rt 77 = 0 := rfl
theorem mL_77 : am_mL 77 = 4 := rfl
theorem na_78 : am_na 78 = 2 := rfl
theorem mc_78 : am_mc 78 = 0 := rfl
theorem ms_78 : am_ms 78 = 0 := rfl
theorem rt_78 : am_rt 78 = 1 := rfl
theorem mL_78 : am_mL 78 = 3 := rfl
theorem na_79 : am_na 79 = 2 := rfl
theorem mc_79 : am_mc 79 = 0 := rfl
theorem ms_79 : am_ms 79 = 0 := rfl
theorem rt_79 : am_rt 79 = 0 := rfl
theorem mL_79 : am_mL 79 = 2 := rfl
theorem na_80 : am_na 80 = 1 := rfl
theorem mc_80 : am_mc 80 = 3 := rfl
theorem ms_80 : am_ms 80 = 183 := rfl
theorem rt_80 : am_rt 80 = 3 := rfl
theorem mL_80 : am_mL 80 = 1 := rfl
theorem na_81 : am_na 81 = 1 := rfl
theorem mc_81 : am_mc 81 = 0 := rfl
theorem ms_81 : am_ms 81 = 0 := rfl
theorem rt_81 : am_rt 81 = 0 := rfl
theorem mL_81 : am_mL 81 = 1 := rfl
theorem na_82 : am_na 82 = 2 := rfl
theorem mc_82 : am_mc 82 = 0 := rfl
theorem ms_82 : am_ms 82 = 0 := rfl
theorem rt_82 : am_rt 82 = 1 := rfl
theorem mL_82 : am_mL 82 = 2 := rfl
theorem na_83 : am_na 83 = 1 := rfl
theorem mc_83 : am_mc 83 = 0 := rfl
theorem ms_83 : am_ms 83 = 0 := rfl
theorem rt_83 : am_rt 83 = 1 := rfl
theorem mL_83 : am_mL 83 = 1 := rfl
theorem na_84 : am_na 84 = 3 := rfl
theorem mc_84 : am_mc 84 = 0 := rfl
theorem ms_84 : am_ms 84 = 0 := rfl
theorem rt_84 : am_rt 84 = 0 := rfl
theorem mL_84 : am_mL 84 = 5 := rfl
theorem na_85 : am_na 85 = 2 := rfl
theorem mc_85 : am_mc 85 = 0 := rfl
theorem ms_85 : am_ms 85 = 0 := rfl
theorem rt_85 : am_rt 85 = 2 := rfl
theorem mL_85 : am_mL 85 = 2 := rfl
theorem na_86 : am_na 86 = 2 := rfl
theorem mc_86 : am_mc 86 = 0 := rfl
theorem ms_86 : am_ms 86 = 0 := rfl
theorem rt_86 : am_rt 86 = 2 := rfl
theorem mL_86 : am_mL 86 = 2 := rfl
theorem na_87 : am_na 87 = 3 := rfl
theorem mc_87 : am_mc 87 = 0 := rfl
theorem ms_87 : am_ms 87 = 0 := rfl
theorem rt_87 : am_rt 87 = 2 := rfl
theorem mL_87 : am_mL 87 = 7 := rfl
theorem na_88 : am_na 88 = 3 := rfl
theorem mc_88 : am_mc 88 = 0 := rfl
theorem ms_88 : am_ms 88 = 0 := rfl
theorem rt_88 : am_rt 88 = 3 := rfl
theorem mL_88 : am_mL 88 = 4 := rfl
theorem na_89 : am_na 89 = 2 := rfl
theorem mc_89 : am_mc 89 = 0 := rfl
theorem ms_89 : am_ms 89 = 0 := rfl
theorem rt_89 : am_rt 89 = 1 := rfl
theorem mL_89 : am_mL 89 = 2 := rfl
theorem na_90 : am_na 90 = 2 := rfl
theorem mc_90 : am_mc 90 = 0 := rfl
theorem ms_90 : am_ms 90 = 0 := rfl
theorem rt_90 : am_rt 90 = 2 := rfl
theorem mL_90 : am_mL 90 = 4 := rfl
theorem na_91 : am_na 91 = 1 := rfl
theorem mc_91 : am_mc 91 = 0 := rfl
theorem ms_91 : am_ms 91 = 0 := rfl
theorem rt_91 : am_rt 91 = 0 := rfl
theorem mL_91 : am_mL 91 = 3 := rfl
theorem na_92 : am_na 92 = 1 := rfl
theorem mc_92 : am_mc 92 = 8 := rfl
theorem ms_92 : am_ms 92 = 1089 := rfl
theorem rt_92 : am_rt 92 = 3 := rfl
theorem mL_92 : am_mL 92 = 1 := rfl
theorem na_93 : am_na 93 = 1 := rfl
theorem mc_93 : am_mc 93 = 0 := rfl
theorem ms_93 : am_ms 93 = 0 := rfl
theorem rt_93 : am_rt 93 = 0 := rfl
theorem mL_93 : am_mL 93 = 1 := rfl
theorem na_94 : am_na 94 = 2 := rfl
theorem mc_94 : am_mc 94 = 0 := rfl
theorem ms_94 : am_ms 94 = 0 := rfl
theorem rt_94 : am_rt 94 = 1 := rfl
theorem mL_94 : am_mL 94 = 2 := rfl
theorem na_95 : am_na 95 = 1 := rfl
theorem mc_95 : am_mc 95 = 0 := rfl
theorem ms_95 : am_ms 95 = 0 := rfl
theorem rt_95 : am_rt 95 = 1 := rfl
theorem mL_95 : am_mL 95 = 1 := rfl
theorem na_96 : am_na 96 = 6 := rfl
theorem mc_96 : am_mc 96 = 0 := rfl
theorem ms_96 : am_ms 96 = 0 := rfl
theorem rt_96 : am_rt 96 = 0 := rfl
theorem mL_96 : am_mL 96 = 8 := rfl
theorem na_97 : am_na 97 = 2 := rfl
theorem mc_97 : am_mc 97 = 0 := rfl
theorem ms_97 : am_ms 97 = 0 := rfl
theorem rt_97 : am_rt 97 = 3 := rfl
theorem mL_97 : am_mL 97 = 2 := rfl
theorem na_98 : am_na 98 = 2 := rfl
theorem mc_98 : am_mc 98 = 0 := rfl
theorem ms_98 : am_ms 98 = 0 := rfl
theorem rt_98 : am_rt 98 = 0 := rfl
theorem mL_98 : am_mL 98 = 2 := rfl
theorem na_99 : am_na 99 = 2 := rfl
theorem mc_99 : am_mc 99 = 0 := rfl
theorem ms_99 : am_ms 99 = 0 := rfl
theorem rt_99 : am_rt 99 = 0 := rfl
theorem mL_99 : am_mL 99 = 2 := rfl
theorem na_100 : am_na 100 = 2 := rfl
theorem mc_100 : am_mc 100 = 0 := rfl
theorem ms_100 : am_ms 100 = 0 := rfl
theorem rt_100 : am_rt 100 = 2 := rfl
theorem mL_100 : am_mL 100 = 2 := rfl
theorem na_101 : am_na 101 = 2 := rfl
theorem mc_101 : am_mc 101 = 0 := rfl
theorem ms_101 : am_ms 101 = 0 := rfl
theorem rt_101 : am_rt 101 = 0 := rfl
theorem mL_101 : am_mL 101 = 2 := rfl
theorem na_102 : am_na 102 = 3 := rfl
theorem mc_102 : am_mc 102 = 0 := rfl
theorem ms_102 : am_ms 102 = 0 := rfl
theorem rt_102 : am_rt 102 = 1 := rfl
theorem mL_102 : am_mL 102 = 3 := rfl
theorem na_103 : am_na 103 = 3 := rfl
theorem mc_103 : am_mc 103 = 0 := rfl
theorem ms_103 : am_ms 103 = 0 := rfl
theorem rt_103 : am_rt 103 = 3 := rfl
theorem mL_103 : am_mL 103 = 3 := rfl
theorem na_104 : am_na 104 = 4 := rfl
theorem mc_104 : am_mc 104 = 0 := rfl
theorem ms_104 : am_ms 104 = 0 := rfl
theorem rt_104 : am_rt 104 = 3 := rfl
theorem mL_104 : am_mL 104 = 6 := rfl
theorem na_105 : am_na 105 = 2 := rfl
theorem mc_105 : am_mc 105 = 0 := rfl
theorem ms_105 : am_ms 105 = 0 := rfl
theorem rt_105 : am_rt 105 = 0 := rfl
theorem mL_105 : am_mL 105 = 5 := rfl
theorem na_106 : am_na 106 = 3 := rfl
theorem mc_106 : am_mc 106 = 0 := rfl
theorem ms_106 : am_ms 106 = 0 := rfl
theorem rt_106 : am_rt 106 = 2 := rfl
theorem mL_106 : am_mL 106 = 6 := rfl
theorem na_107 : am_na 107 = 1 := rfl
theorem mc_107 : am_mc 107 = 1 := rfl
theorem ms_107 : am_ms 107 = 2400 := rfl
theorem rt_107 : am_rt 107 = 3 := rfl
theorem mL_107 : am_mL 107 = 1 := rfl
theorem na_108 : am_na 108 = 1 := rfl
theorem mc_108 : am_mc 108 = 0 := rfl
theorem ms_108 : am_ms 108 = 0 := rfl
theorem rt_108 : am_rt 108 = 1 := rfl
theorem mL_108 : am_mL 108 = 1 := rfl
theorem na_109 : am_na 109 = 1 := rfl
theorem mc_109 : am_mc 109 = 0 := rfl
theorem ms_109 : am_ms 109 = 0 := rfl
theorem rt_109 : am_rt 109 = 0 := rfl
theorem mL_109 : am_mL 109 = 1 := rfl
theorem na_110 : am_na 110 = 1 := rfl
theorem mc_110 : am_mc 110 = 0 := rfl
theorem ms_110 : am_ms 110 = 0 := rfl
theorem rt_110 : am_rt 110 = 2 := rfl
theorem mL_110 : am_mL 110 = 1 := rfl
theorem na_111 : am_na 111 = 2 := rfl
theorem mc_111 : am_mc 111 = 0 := rfl
theorem ms_111 : am_ms 111 = 0 := rfl
theorem rt_111 : am_rt 111 = 0 := rfl
theorem mL_111 : am_mL 111 = 2 := rfl
theorem na_112 : am_na 112 = 1 := rfl
theorem mc_112 : am_mc 112 = 0 := rfl
theorem ms_112 : am_ms 112 = 0 := rfl
theorem rt_112 : am_rt 112 = 3 := rfl
theorem mL_112 : am_mL 112 = 1 := rfl
theorem na_113 : am_na 113 = 2 := rfl
theorem mc_113 : am_mc 113 = 0 := rfl
theorem ms_113 : am_ms 113 = 0 := rfl
theorem rt_113 : am_rt 113 = 3 := rfl
theorem mL_113 : am_mL 113 = 2 := rfl
theorem na_114 : am_na 114 = 2 := rfl
theorem mc_114 : am_mc 114 = 0 := rfl
theorem ms_114 : am_ms 114 = 0 := rfl
theorem rt_114 : am_rt 114 = 3 := rfl
theorem mL_114 : am_mL 114 = 3 := rfl
theorem na_115 : am_na 115 = 2 := rfl
theorem mc_115 : am_mc 115 = 0 := rfl
theorem ms_115 : am_ms 115 = 0 := rfl
theorem rt_115 : am_rt 115 = 1 := rfl
theorem mL_115 : am_mL 115 = 2 := rfl
theorem na_116 : am_na 116 = 2 := rfl
theorem mc_116 : am_mc 116 = 0 := rfl
theorem ms_116 : am_ms 116 = 0 := rfl
theorem rt_116 : am_rt 116 = 1 := rfl
theorem mL_116 : am_mL 116 = 3 := rfl
theorem na_117 : am_na 117 = 3 := rfl
theorem mc_117 : am_mc 117 = 9 := rfl
theorem ms_117 : am_ms 117 = 8073 := rfl
theorem rt_117 : am_rt 117 = 3 := rfl
theorem mL_117 : am_mL 117 = 3 := rfl
theorem na_118 : am_na 118 = 5 := rfl
theorem mc_118 : am_mc 118 = 0 := rfl
theorem ms_118 : am_ms 118 = 0 := rfl
theorem rt_118 : am_rt 118 = 3 := rfl
theorem mL_118 : am_mL 118 = 5 := rfl
theorem na_119 : am_na 119 = 2 := rfl
theorem mc_119 : am_mc 119 = 0 := rfl
theorem ms_119 : am_ms 119 = 0 := rfl
theorem rt_119 : am_rt 119 = 3 := rfl
theorem mL_119 : am_mL 119 = 8 := rfl
theorem na_120 : am_na 120 = 2 := rfl
theorem mc_120 : am_mc 120 = 0 := rfl
theorem ms_120 : am_ms 120 = 0 := rfl
theorem rt_120 : am_rt 120 = 1 := rfl
theorem mL_120 : am_mL 120 = 4 := rfl
theorem na_121 : am_na 121 = 2 := rfl
theorem mc_121 : am_mc 121 = 0 := rfl
theorem ms_121 : am_ms 121 = 0 := rfl
theorem rt_121 : am_rt 121 = 2 := rfl
theorem mL_121 : am_mL 121 = 5 := rfl
theorem na_122 : am_na 122 = 1 := rfl
theorem mc_122 : am_mc 122 = 0 := rfl
theorem ms_122 : am_ms 122 = 0 := rfl
theorem rt_122 : am_rt 122 = 0 := rfl
theorem mL_122 : am_mL 122 = 7 := rfl
theorem na_123 : am_na 123 = 1 := rfl
theorem mc_123 : am_mc 123 = 0 := rfl
theorem ms_123 : am_ms 123 = 0 := rfl
theorem rt_123 : am_rt 123 = 0 := rfl
theorem mL_123 : am_mL 123 = 1 := rfl
theorem na_124 : am_na 124 = 1 := rfl
theorem mc_124 : am_mc 124 = 0 := rfl
theorem ms_124 : am_ms 124 = 0 := rfl
theorem rt_124 : am_rt 124 = 0 := rfl
theorem mL_124 : am_mL 124 = 1 := rfl
theorem na_125 : am_na 125 = 3 := rfl
theorem mc_125 : am_mc 125 = 0 := rfl
theorem ms_125 : am_ms 125 = 0 := rfl
theorem rt_125 : am_rt 125 = 1 := rfl
theorem mL_125 : am_mL 125 = 3 := rfl
theorem na_126 : am_na 126 = 1 := rfl
theorem mc_126 : am_mc 126 = 0 := rfl
theorem ms_126 : am_ms 126 = 0 := rfl
theorem rt_126 : am_rt 126 = 3 := rfl
theorem mL_126 : am_mL 126 = 5 := rfl
theorem na_127 : am_na 127 = 4 := rfl
theorem mc_127 : am_mc 127 = 0 := rfl
theorem ms_127 : am_ms 127 = 0 := rfl
theorem rt_127 : am_rt 127 = 3 := rfl
theorem mL_127 : am_mL 127 = 10 := rfl
theorem na_128 : am_na 128 = 3 := rfl
theorem mc_128 : am_mc 128 = 0 := rfl
theorem ms_128 : am_ms 128 = 0 := rfl
theorem rt_128 : am_rt 128 = 3 := rfl
theorem mL_128 : am_mL 128 = 7 := rfl
theorem na_129 : am_na 129 = 3 := rfl
theorem mc_129 : am_mc 129 = 0 := rfl
theorem ms_129 : am_ms 129 = 0 := rfl
theorem rt_129 : am_rt 129 = 0 := rfl
theorem mL_129 : am_mL 129 = 5 := rfl
theorem na_130 : am_na 130 = 3 := rfl
theorem mc_130 : am_mc 130 = 0 := rfl
theorem ms_130 : am_ms 130 = 0 := rfl
theorem rt_130 : am_rt 130 = 1 := rfl
theorem mL_130 : am_mL 130 = 8 := rfl
theorem na_131 : am_na 131 = 1 := rfl
theorem mc_131 : am_mc 131 = 0 := rfl
theorem ms_131 : am_ms 131 = 0 := rfl
theorem rt_131 : am_rt 131 = 3 := rfl
theorem mL_131 : am_mL 131 = 2 := rfl
theorem na_132 : am_na 132 = 2 := rfl
theorem mc_132 : am_mc 132 = 0 := rfl
theorem ms_132 : am_ms 132 = 0 := rfl
theorem rt_132 : am_rt 132 = 3 := rfl
theorem mL_132 : am_mL 132 = 5 := rfl
theorem na_133 : am_na 133 = 2 := rfl
theorem mc_133 : am_mc 133 = 0 := rfl
theorem ms_133 : am_ms 133 = 0 := rfl
theorem rt_133 : am_rt 133 = 3 := rfl
theorem mL_133 : am_mL 133 = 4 := rfl
theorem na_134 : am_na 134 = 1 := rfl
theorem mc_134 : am_mc 134 = 0 := rfl
theorem ms_134 : am_ms 134 = 0 := rfl
theorem rt_134 : am_rt 134 = 2 := rfl
theorem mL_134 : am_mL 134 = 4 := rfl
theorem na_135 : am_na 135 = 1 := rfl
theorem mc_135 : am_mc 135 = 0 := rfl
theorem ms_135 : am_ms 135 = 0 := rfl
theorem rt_135 : am_rt 135 = 3 := rfl
theorem mL_135 : am_mL 135 = 4 := rfl
theorem na_136 : am_na 136 = 2 := rfl
theorem mc_136 : am_mc 136 = 0 := rfl
theorem ms_136 : am_ms 136 = 0 := rfl
theorem rt_136 : am_rt 136 = 1 := rfl
theorem mL_136 : am_mL 136 = 5 := rfl
theorem na_137 : am_na 137 = 3 := rfl
theorem mc_137 : am_mc 137 = 0 := rfl
theorem ms_137 : am_ms 137 = 0 := rfl
theorem rt_137 : am_rt 137 = 0 := rfl
theorem mL_137 : am_mL 137 = 3 := rfl
theorem na_138 : am_na 138 = 2 := rfl
theorem mc_138 : am_mc 138 = 0 := rfl
theorem ms_138 : am_ms 138 = 0 := rfl
theorem rt_138 : am_rt 138 = 1 := rfl
theorem mL_138 : am_mL 138 = 3 := rfl
theorem na_139 : am_na 139 = 7 := rfl
theorem mc_139 : am_mc 139 = 2 := rfl
theorem ms_139 : am_ms 139 = 16 := rfl
theorem rt_139 : am_rt 139 = 0 := rfl
theorem mL_139 : am_mL 139 = 10 := rfl
theorem na_140 : am_na 140 = 1 := rfl
theorem mc_140 : am_mc 140 = 1078 := rfl
theorem ms_140 : am_ms 140 = 56089 := rfl
theorem rt_140 : am_rt 140 = 1 := rfl
theorem mL_140 : am_mL 140 = 7 := rfl
theorem rf_0_11 : am_rf 0 11 = some (0, 0) := rfl
theorem rf_0_15 : am_rf 0 15 = some (0, 1) := rfl
theorem rf_0_19 : am_rf 0 19 = some (0, 2) := rfl
theorem rf_0_22 : am_rf 0 22 = some (0, 3) := rfl
theorem rm_0_3 : am_rm 0 3 = (1, 0) := rfl
theorem rm_0_28 : am_rm 0 28 = (6, 65) := rfl
theorem rm_0_32 : am_rm 0 32 = (6, 66) := rfl
theorem kl_0_26 : am_kL 0 26 = some (2305843009213693951) := rfl
theorem rf_1_9 : am_rf 1 9 = some (1, 0) := rfl
theorem rf_1_13 : am_rf 1 13 = some (1, 1) := rfl
theorem rm_1_3 : am_rm 1 3 = (1, 0) := rfl
theorem rf_2_9 : am_rf 2 9 = some (2, 0) := rfl
theorem rf_2_13 : am_rf 2 13 = some (2, 1) := rfl
theorem rm_2_1 : am_rm 2 1 = (1, 0) := rfl
theorem rm_2_17 : am_rm 2 17 = (6, 78) := rfl
theorem rm_2_21 : am_rm 2 21 = (0, 79) := rfl
theorem rf_3_9 : am_rf 3 9 = some (3, 0) := rfl
theorem rf_3_15 : am_rf 3 15 = some (3, 1) := rfl
theorem rf_3_18 : am_rf 3 18 = some (3, 2) := rfl
theorem rf_3_21 : am_rf 3 21 = some (3, 3) := rfl
theorem rm_3_3 : am_rm 3 3 = (1, 0) := rfl
theorem rm_3_27 : am_rm 3 27 = (4, 0) := rfl
theorem rm_3_33 : am_rm 3 33 = (6, 89) := rfl
theorem kl_3_25 : am_kL 3 25 = some (1000) := rfl
theorem rf_4_9 : am_rf 4 9 = some (4, 0) := rfl
theorem rf_4_15 : am_rf 4 15 = some (4, 1) := rfl
theorem rf_4_18 : am_rf 4 18 = some (4, 2) := rfl
theorem rf_4_22 : am_rf 4 22 = some (4, 3) := rfl
theorem rf_4_25 : am_rf 4 25 = some (4, 4) := rfl
theorem rf_4_28 : am_rf 4 28 = some (4, 5) := rfl
theorem rf_4_31 : am_rf 4 31 = some (4, 6) := rfl
theorem rf_4_34 : am_rf 4 34 = some (4, 7) := rfl
theorem rf_4_37 : am_rf 4 37 = some (4, 8) := rfl
theorem rm_4_3 : am_rm 4 3 = (1, 0) := rfl
theorem kl_4_41 : am_kL 4 41 = some (20000) := rfl
theorem kl_4_43 : am_kL 4 43 = some (1000) := rfl
theorem kl_4_45 : am_kL 4 45 = some (-1) := rfl
theorem rf_5_9 : am_rf 5 9 = some (5, 0) := rfl
theorem rf_5_15 : am_rf 5 15 = some (5, 1) := rfl
theorem rf_5_19 : am_rf 5 19 = some (5, 2) := rfl
theorem rf_5_23 : am_rf 5 23 = some (5, 3) := rfl
theorem rm_5_3 : am_rm 5 3 = (1, 0) := rfl
theorem rm_5_27 : am_rm 5 27 = (2, 0) := rfl
theorem rm_5_33 : am_rm 5 33 = (6, 111) := rfl
theorem rf_6_12 : am_rf 6 12 = some (6, 2) := rfl
theorem rf_6_18 : am_rf 6 18 = some (6, 3) := rfl
theorem rf_6_22 : am_rf 6 22 = some (6, 4) := rfl
theorem rf_6_26 : am_rf 6 26 = some (6, 5) := rfl
theorem rf_6_29 : am_rf 6 29 = some (6, 6) := rfl
theorem rf_6_32 : am_rf 6 32 = some (6, 7) := rfl
theorem rf_6_35 : am_rf 6 35 = some (6, 8) := rfl
theorem rf_6_39 : am_rf 6 39 = some (6, 9) := rfl
theorem rf_6_42 : am_rf 6 42 = some (6, 10) := rfl
theorem rf_6_45 : am_rf 6 45 = some (6, 11) := rfl
theorem rf_6_48 : am_rf 6 48 = some (6, 0) := rfl
theorem rf_6_52 : am_rf 6 52 = some (6, 1) := rfl
theorem rm_6_3 : am_rm 6 3 = (1, 0) := rfl
theorem rm_6_11 : am_rm 6 11 = (7, 60) := rfl
theorem rm_6_56 : am_rm 6 56 = (6, 97) := rfl
theorem rm_6_62 : am_rm 6 62 = (6, 81) := rfl
theorem rm_6_68 : am_rm 6 68 = (6, 90) := rfl
theorem rm_6_74 : am_rm 6 74 = (6, 93) := rfl
theorem rm_6_75 : am_rm 6 75 = (6, 106) := rfl
theorem rm_6_79 : am_rm 6 79 = (6, 100) := rfl
theorem rm_6_84 : am_rm 6 84 = (6, 101) := rfl
theorem rm_6_88 : am_rm 6 88 = (6, 112) := rfl
theorem rm_6_93 : am_rm 6 93 = (6, 114) := rfl
theorem rm_6_97 : am_rm 6 97 = (6, 126) := rfl
theorem rm_6_100 : am_rm 6 100 = (6, 124) := rfl
theorem rm_6_103 : am_rm 6 103 = (6, 62) := rfl
theorem rm_6_108 : am_rm 6 108 = (6, 128) := rfl
theorem rm_6_112 : am_rm 6 112 = (6, 131) := rfl
theorem rm_6_115 : am_rm 6 115 = (6, 109) := rfl
theorem rm_6_118 : am_rm 6 118 = (6, 111) := rfl
theorem rm_6_121 : am_rm 6 121 = (6, 125) := rfl
theorem rm_6_125 : am_rm 6 125 = (6, 99) := rfl
theorem rm_6_128 : am_rm 6 128 = (6, 132) := rfl
theorem rm_6_131 : am_rm 6 131 = (6, 133) := rfl
theorem rm_6_134 : am_rm 6 134 = (6, 134) := rfl
theorem rm_6_138 : am_rm 6 138 = (6, 135) := rfl
theorem rm_6_141 : am_rm 6 141 = (6, 89) := rfl
theorem rm_6_145 : am_rm 6 145 = (6, 138) := rfl
theorem rm_6_148 : am_rm 6 148 = (6, 87) := rfl
theorem rm_6_152 : am_rm 6 152 = (6, 98) := rfl
theorem rm_6_155 : am_rm 6 155 = (6, 102) := rfl
theorem rm_6_158 : am_rm 6 158 = (6, 123) := rfl
theorem rm_6_161 : am_rm 6 161 = (6, 61) := rfl
theorem rm_6_164 : am_rm 6 164 = (6, 63) := rfl
theorem rm_6_168 : am_rm 6 168 = (6, 64) := rfl
theorem rm_6_171 : am_rm 6 171 = (6, 127) := rfl
theorem rm_6_175 : am_rm 6 175 = (6, 129) := rfl
theorem rm_6_179 : am_rm 6 179 = (6, 113) := rfl
theorem rm_6_182 : am_rm 6 182 = (6, 130) := rfl
theorem rm_6_186 : am_rm 6 186 = (5, 0) := rfl
theorem rm_6_192 : am_rm 6 192 = (6, 137) := rfl
theorem rm_6_196 : am_rm 6 196 = (6, 136) := rfl
theorem rn_6_9 : am_rn 6 9 = some 0 := rfl
theorem kl_6_72 : am_kL 6 72 = some (4096) := rfl
theorem kl_6_82 : am_kL 6 82 = some (-1) := rfl
theorem kl_6_106 : am_kL 6 106 = some (2305843009213693951) := rfl
theorem rf_7_14 : am_rf 7 14 = some (7, 0) := rfl
theorem rf_7_21 : am_rf 7 21 = some (7, 1) := rfl
theorem rf_7_30 : am_rf 7 30 = some (7, 2) := rfl
theorem rf_7_37 : am_rf 7 37 = some (7, 3) := rfl
theorem rf_7_44 : am_rf 7 44 = some (7, 4) := rfl
theorem rf_7_51 : am_rf 7 51 = some (7, 5) := rfl
theorem rf_7_55 : am_rf 7 55 = some (7, 6) := rfl
theorem rf_7_58 : am_rf 7 58 = some (7, 7) := rfl
theorem rf_7_62 : am_rf 7 62 = some (7, 8) := rfl
theorem rf_7_66 : am_rf 7 66 = some (7, 9) := rfl
theorem rm_7_5 : am_rm 7 5 = (1, 0) := rfl
theorem rm_7_13 : am_rm 7 13 = (7, 80) := rfl
theorem rm_7_20 : am_rm 7 20 = (7, 92) := rfl
theorem rm_7_27 : am_rm 7 27 = (7, 117) := rfl
theorem rm_7_36 : am_rm 7 36 = (7, 72) := rfl
theorem rm_7_43 : am_rm 7 43 = (7, 70) := rfl
theorem rm_7_50 : am_rm 7 50 = (7, 107) := rfl
theorem rm_7_72 : am_rm 7 72 = (0, 15) := rfl
theorem rm_7_76 : am_rm 7 76 = (6, 83) := rfl
theorem rm_7_80 : am_rm 7 80 = (6, 84) := rfl
theorem rm_7_84 : am_rm 7 84 = (6, 82) := rfl
theorem rm_7_92 : am_rm 7 92 = (6, 95) := rfl
theorem rm_7_100 : am_rm 7 100 = (6, 96) := rfl
theorem rm_7_103 : am_rm 7 103 = (6, 94) := rfl
theorem rm_7_104 : am_rm 7 104 = (6, 98) := rfl
theorem rm_7_108 : am_rm 7 108 = (6, 99) := rfl
theorem rm_7_111 : am_rm 7 111 = (6, 102) := rfl
theorem rm_7_115 : am_rm 7 115 = (6, 103) := rfl
theorem rm_7_121 : am_rm 7 121 = (6, 88) := rfl
theorem rm_7_125 : am_rm 7 125 = (6, 91) := rfl
theorem rm_7_131 : am_rm 7 131 = (6, 118) := rfl
theorem rm_7_135 : am_rm 7 135 = (6, 16) := rfl
theorem rm_7_138 : am_rm 7 138 = (6, 112) := rfl
theorem rm_7_141 : am_rm 7 141 = (6, 17) := rfl
theorem rm_7_144 : am_rm 7 144 = (6, 109) := rfl
theorem rm_7_147 : am_rm 7 147 = (6, 111) := rfl
theorem rm_7_150 : am_rm 7 150 = (6, 108) := rfl
theorem rm_7_153 : am_rm 7 153 = (6, 110) := rfl
theorem rm_7_163 : am_rm 7 163 = (6, 93) := rfl
theorem rm_7_166 : am_rm 7 166 = (6, 22) := rfl
theorem rm_7_169 : am_rm 7 169 = (6, 23) := rfl
theorem rm_7_173 : am_rm 7 173 = (6, 104) := rfl
theorem rm_7_177 : am_rm 7 177 = (6, 105) := rfl
theorem rm_7_181 : am_rm 7 181 = (6, 18) := rfl
theorem rm_7_185 : am_rm 7 185 = (6, 21) := rfl
theorem rm_7_189 : am_rm 7 189 = (6, 115) := rfl
theorem rm_7_192 : am_rm 7 192 = (6, 73) := rfl
theorem rm_7_195 : am_rm 7 195 = (6, 75) := rfl
theorem rm_7_198 : am_rm 7 198 = (6, 74) := rfl
theorem rm_7_199 : am_rm 7 199 = (6, 76) := rfl
theorem rm_7_202 : am_rm 7 202 = (6, 81) := rfl
theorem rm_7_203 : am_rm 7 203 = (6, 77) := rfl
theorem rm_7_206 : am_rm 7 206 = (6, 71) := rfl
theorem rm_7_209 : am_rm 7 209 = (6, 119) := rfl
theorem rm_7_213 : am_rm 7 213 = (6, 120) := rfl
theorem rm_7_217 : am_rm 7 217 = (6, 122) := rfl
theorem rm_7_220 : am_rm 7 220 = (6, 121) := rfl
theorem rm_7_224 : am_rm 7 224 = (6, 116) := rfl
theorem rm_7_227 : am_rm 7 227 = (6, 85) := rfl
theorem rm_7_231 : am_rm 7 231 = (6, 86) := rfl
theorem rm_7_234 : am_rm 7 234 = (6, 19) := rfl
theorem rm_7_237 : am_rm 7 237 = (6, 20) := rfl
theorem rm_7_240 : am_rm 7 240 = (0, 67) := rfl
theorem rm_7_246 : am_rm 7 246 = (0, 68) := rfl
theorem rm_7_249 : am_rm 7 249 = (0, 69) := rfl
theorem rn_7_11 : am_rn 7 11 = some 3 := rfl
theorem rn_7_18 : am_rn 7 18 = some 4 := rfl
theorem rn_7_25 : am_rn 7 25 = some 6 := rfl
theorem rn_7_34 : am_rn 7 34 = some 2 := rfl
theorem rn_7_41 : am_rn 7 41 = some 1 := rfl
theorem rn_7_48 : am_rn 7 48 = some 5 := rfl
theorem kl_7_70 : am_kL 7 70 = some (10000) := rfl
theorem kl_7_88 : am_kL 7 88 = some (100000) := rfl
theorem kl_7_90 : am_kL 7 90 = some (1000) := rfl
theorem kl_7_119 : am_kL 7 119 = some (1000000) := rfl
theorem kl_7_129 : am_kL 7 129 = some (20) := rfl
theorem kl_7_157 : am_kL 7 157 = some (-1) := rfl
theorem kl_7_159 : am_kL 7 159 = some (20000) := rfl
theorem kl_7_161 : am_kL 7 161 = some (2501) := rfl
theorem rf_8_7 : am_rf 8 7 = some (8, 2) := rfl
theorem rf_8_13 : am_rf 8 13 = some (8, 3) := rfl
theorem rf_8_16 : am_rf 8 16 = some (8, 4) := rfl
theorem rf_8_19 : am_rf 8 19 = some (8, 6) := rfl
theorem rf_8_23 : am_rf 8 23 = some (8, 7) := rfl
theorem rf_8_26 : am_rf 8 26 = some (8, 8) := rfl
theorem rf_8_29 : am_rf 8 29 = some (8, 9) := rfl
theorem rf_8_32 : am_rf 8 32 = some (8, 10) := rfl
theorem rf_8_35 : am_rf 8 35 = some (8, 11) := rfl
theorem rf_8_38 : am_rf 8 38 = some (8, 12) := rfl
theorem rf_8_41 : am_rf 8 41 = some (8, 13) := rfl
theorem rf_8_45 : am_rf 8 45 = some (8, 17) := rfl
theorem rf_8_49 : am_rf 8 49 = some (8, 19) := rfl
theorem rf_8_52 : am_rf 8 52 = some (8, 20) := rfl
theorem rf_8_55 : am_rf 8 55 = some (8, 21) := rfl
theorem rf_8_58 : am_rf 8 58 = some (8, 22) := rfl
theorem rf_8_61 : am_rf 8 61 = some (8, 24) := rfl
theorem rf_8_66 : am_rf 8 66 = some (8, 25) := rfl
theorem rf_8_70 : am_rf 8 70 = some (8, 26) := rfl
theorem rf_8_73 : am_rf 8 73 = some (8, 28) := rfl
theorem rf_8_76 : am_rf 8 76 = some (8, 31) := rfl
theorem rf_8_79 : am_rf 8 79 = some (8, 33) := rfl
theorem rf_8_82 : am_rf 8 82 = some (8, 0) := rfl
theorem rf_8_85 : am_rf 8 85 = some (8, 1) := rfl
theorem rf_8_88 : am_rf 8 88 = some (8, 5) := rfl
theorem rf_8_110 : am_rf 8 110 = some (8, 14) := rfl
theorem rf_8_113 : am_rf 8 113 = some (8, 15) := rfl
theorem rf_8_131 : am_rf 8 131 = some (8, 16) := rfl
theorem rf_8_145 : am_rf 8 145 = some (8, 18) := rfl
theorem rf_8_151 : am_rf 8 151 = some (8, 27) := rfl
theorem rf_8_154 : am_rf 8 154 = some (8, 30) := rfl
theorem rf_8_161 : am_rf 8 161 = some (8, 29) := rfl
theorem rf_8_173 : am_rf 8 173 = some (8, 23) := rfl
theorem rf_8_207 : am_rf 8 207 = some (8, 32) := rfl
theorem rf_8_214 : am_rf 8 214 = some (8, 35) := rfl
theorem rf_8_217 : am_rf 8 217 = some (8, 34) := rfl
theorem rm_8_1 : am_rm 8 1 = (1, 0) := rfl
theorem rm_8_95 : am_rm 8 95 = (6, 26) := rfl
theorem rm_8_105 : am_rm 8 105 = (6, 27) := rfl
theorem rm_8_116 : am_rm 8 116 = (6, 37) := rfl
theorem rm_8_120 : am_rm 8 120 = (6, 33) := rfl
theorem rm_8_124 : am_rm 8 124 = (6, 36) := rfl
theorem rm_8_127 : am_rm 8 127 = (6, 35) := rfl
theorem rm_8_134 : am_rm 8 134 = (6, 34) := rfl
theorem rm_8_137 : am_rm 8 137 = (6, 39) := rfl
theorem rm_8_141 : am_rm 8 141 = (6, 38) := rfl
theorem rm_8_148 : am_rm 8 148 = (6, 40) := rfl
theorem rm_8_157 : am_rm 8 157 = (6, 45) := rfl
theorem rm_8_164 : am_rm 8 164 = (6, 41) := rfl
theorem rm_8_167 : am_rm 8 167 = (6, 42) := rfl
theorem rm_8_170 : am_rm 8 170 = (6, 44) := rfl
theorem rm_8_178 : am_rm 8 178 = (6, 43) := rfl
theorem rm_8_182 : am_rm 8 182 = (6, 46) := rfl
theorem rm_8_185 : am_rm 8 185 = (6, 48) := rfl
theorem rm_8_195 : am_rm 8 195 = (0, 54) := rfl
theorem rm_8_199 : am_rm 8 199 = (6, 55) := rfl
theorem rm_8_210 : am_rm 8 210 = (0, 57) := rfl
theorem kl_8_64 : am_kL 8 64 = some (-1) := rfl
theorem kl_8_91 : am_kL 8 91 = some (-10000) := rfl
theorem kl_8_93 : am_kL 8 93 = some (10000) := rfl
theorem kl_8_99 : am_kL 8 99 = some (100000) := rfl
theorem kl_8_101 : am_kL 8 101 = some (1000) := rfl
theorem kl_8_103 : am_kL 8 103 = some (20000) := rfl
theorem kl_8_108 : am_kL 8 108 = some (1000000) := rfl
theorem kl_8_176 : am_kL 8 176 = some (20) := rfl
theorem kl_8_189 : am_kL 8 189 = some (-2) := rfl
theorem kl_8_191 : am_kL 8 191 = some (2) := rfl
theorem kl_8_193 : am_kL 8 193 = some (-20000) := rfl
theorem kl_8_203 : am_kL 8 203 = some (2501) := rfl
theorem kl_8_205 : am_kL 8 205 = some (2500) := rfl
theorem rm_9_9 : am_rm 9 9 = (3, 0) := rfl
theorem kl_9_7 : am_kL 9 7 = some (2) := rfl
theorem rm_10_7 : am_rm 10 7 = (6, 2) := rfl
theorem rm_10_15 : am_rm 10 15 = (7, 0) := rfl
theorem rm_10_18 : am_rm 10 18 = (7, 24) := rfl
theorem rm_10_21 : am_rm 10 21 = (6, 1) := rfl
theorem rm_10_25 : am_rm 10 25 = (6, 28) := rfl
theorem rm_10_26 : am_rm 10 26 = (0, 139) := rfl
theorem rm_10_31 : am_rm 10 31 = (6, 29) := rfl
theorem rm_10_32 : am_rm 10 32 = (6, 25) := rfl
theorem rm_10_36 : am_rm 10 36 = (6, 3) := rfl
theorem rm_10_40 : am_rm 10 40 = (6, 30) := rfl
theorem rm_10_41 : am_rm 10 41 = (6, 4) := rfl
theorem rm_10_45 : am_rm 10 45 = (6, 31) := rfl
theorem rm_10_46 : am_rm 10 46 = (6, 5) := rfl
theorem rm_10_50 : am_rm 10 50 = (6, 47) := rfl
theorem rm_10_51 : am_rm 10 51 = (6, 6) := rfl
theorem rm_10_55 : am_rm 10 55 = (6, 50) := rfl
theorem rm_10_56 : am_rm 10 56 = (6, 7) := rfl
theorem rm_10_60 : am_rm 10 60 = (6, 51) := rfl
theorem rm_10_61 : am_rm 10 61 = (6, 8) := rfl
theorem rm_10_65 : am_rm 10 65 = (6, 56) := rfl
theorem rm_10_66 : am_rm 10 66 = (6, 9) := rfl
theorem rm_10_70 : am_rm 10 70 = (6, 32) := rfl
theorem rm_10_71 : am_rm 10 71 = (6, 10) := rfl
theorem rm_10_75 : am_rm 10 75 = (6, 49) := rfl
theorem rm_10_76 : am_rm 10 76 = (6, 11) := rfl
theorem rm_10_80 : am_rm 10 80 = (6, 53) := rfl
theorem rm_10_81 : am_rm 10 81 = (6, 12) := rfl
theorem rm_10_84 : am_rm 10 84 = (6, 58) := rfl
theorem rm_10_85 : am_rm 10 85 = (6, 13) := rfl
theorem rm_10_88 : am_rm 10 88 = (6, 52) := rfl
theorem rm_10_89 : am_rm 10 89 = (6, 14) := rfl
theorem rm_10_92 : am_rm 10 92 = (6, 59) := rfl
theorem rn_10_8 : am_rn 10 8 = some 7 := rfl
theorem rn_10_16 : am_rn 10 16 = some 8 := rfl
theorem kl_10_19 : am_kL 10 19 = some (4294967295) := rfl
theorem kd_at_0 : am_kd 0 = kd_0 := rfl
theorem kc_0_0 : am_code 0 0 = [.aload_n 0, .invokespecial 5, .aload_n 0, .new 11, .dup, .invokespecial 13, .putfield 14, .aload_n 0, .new 18, .dup, .invokespecial 20, .putfield 21, .aload_n 0, .new 25, .dup, .aload_n 0, .getfield 14, .aload_n 0, .getfield 21, .invokespecial 27, .putfield 30, .aload_n 0, .new 34, .dup, .invokespecial 36, .putfield 37, .aload_n 0, .new 41, .dup, .invokespecial 43, .putfield 44, .aload_n 0, .new 48, .dup, .invokespecial 50, .putfield 51, .aload_n 0, .new 48, .dup, .invokespecial 50, .putfield 55, .aload_n 0, .iconst (0), .putfield 58, .aload_n 0, .lconst 0, .putfield 62, .aload_n 0, .iconst (0), .putfield 66, .return_] := by unfold am_code; rw [kd_at_0]; rfl
theorem kd_at_1 : am_kd 1 = kd_1 := rfl
theorem kc_1_0 : am_code 1 0 = [.lload_n 1, .ldc2_w 70, .invokestatic 72, .ifCond .eq (13)] := by unfold am_code; rw [kd_at_1]; rfl
theorem kc_1_10 : am_code 1 10 = [.lload_n 3, .ldc2_w 70, .invokestatic 72, .ifCond .ne (6)] := by unfold am_code; rw [kd_at_1]; rfl
theorem kc_1_20 : am_code 1 20 = [.bipush (-2), .ireturn] := by unfold am_code; rw [kd_at_1]; rfl
theorem kc_1_23 : am_code 1 23 = [.aload_n 0, .getfield 14, .invokevirtual 76, .ifCond .eq (6)] := by unfold am_code; rw [kd_at_1]; rfl
theorem kc_1_33 : am_code 1 33 = [.bipush (-4), .ireturn] := by unfold am_code; rw [kd_at_1]; rfl
theorem kc_1_36 : am_code 1 36 = [.aload_n 0, .getfield 14, .lload_n 1, .lload_n 3, .invokevirtual 80, .ireturn] := by unfold am_code; rw [kd_at_1]; rfl
theorem kd_at_2 : am_kd 2 = kd_2 := rfl
theorem kc_2_0 : am_code 2 0 = [.aload_n 0, .getfield 14, .iload_n 1, .invokevirtual 84, .ifCond .eq (14)] := by unfold am_code; rw [kd_at_2]; rfl
theorem kc_2_11 : am_code 2 11 = [.aload_n 0, .getfield 14, .iload_n 2, .invokevirtual 84, .ifCond .ne (5)] := by unfold am_code; rw [kd_at_2]; rfl
theorem kc_2_22 : am_code 2 22 = [.iconst (-1), .ireturn] := by unfold am_code; rw [kd_at_2]; rfl
theorem kc_2_24 : am_code 2 24 = [.iload_n 1, .iload_n 2, .if_icmp .eq (17)] := by unfold am_code; rw [kd_at_2]; rfl
theorem kc_2_29 : am_code 2 29 = [.lload_n 3, .lconst 1, .lcmp, .ifCond .lt (11)] := by unfold am_code; rw [kd_at_2]; rfl
theorem kc_2_35 : am_code 2 35 = [.lload_n 3, .ldc2_w 88, .lcmp, .ifCond .le (6)] := by unfold am_code; rw [kd_at_2]; rfl
theorem kc_2_43 : am_code 2 43 = [.bipush (-2), .ireturn] := by unfold am_code; rw [kd_at_2]; rfl
theorem kc_2_46 : am_code 2 46 = [.lload 5, .lconst 0, .lcmp, .ifCond .lt (23)] := by unfold am_code; rw [kd_at_2]; rfl
theorem kc_2_53 : am_code 2 53 = [.lload 5, .ldc2_w 90, .lcmp, .ifCond .gt (14)] := by unfold am_code; rw [kd_at_2]; rfl
theorem kc_2_62 : am_code 2 62 = [.iload 7, .ifCond .lt (9)] := by unfold am_code; rw [kd_at_2]; rfl
theorem kc_2_67 : am_code 2 67 = [.iload 7, .iconst (3), .if_icmp .le (6)] := by unfold am_code; rw [kd_at_2]; rfl
theorem kc_2_73 : am_code 2 73 = [.bipush (-2), .ireturn] := by unfold am_code; rw [kd_at_2]; rfl
theorem kc_2_76 : am_code 2 76 = [.aload_n 0, .getfield 21, .invokevirtual 92, .ifCond .eq (6)] := by unfold am_code; rw [kd_at_2]; rfl
theorem kc_2_86 : am_code 2 86 = [.bipush (-4), .ireturn] := by unfold am_code; rw [kd_at_2]; rfl
theorem kc_2_89 : am_code 2 89 = [.lload 5, .lconst 0, .lcmp, .ifCond .ne (13)] := by unfold am_code; rw [kd_at_2]; rfl
theorem kc_2_96 : am_code 2 96 = [.new 93, .dup, .ldc 95, .invokespecial 97, .athrow] := by unfold am_code; rw [kd_at_2]; rfl
theorem kc_2_106 : am_code 2 106 = [.aload_n 0, .getfield 21, .iload_n 1, .iload_n 2, .lload_n 3, .lload 5, .iload 7, .invokevirtual 100, .ireturn] := by unfold am_code; rw [kd_at_2]; rfl
theorem kd_at_3 : am_kd 3 = kd_3 := rfl
theorem kc_3_0 : am_code 3 0 = [.aload_n 0, .getfield 21, .iload_n 1, .invokevirtual 103, .ifCond .eq (14)] := by unfold am_code; rw [kd_at_3]; rfl
theorem kc_3_11 : am_code 3 11 = [.aload_n 0, .getfield 21, .iload_n 2, .invokevirtual 103, .ifCond .ne (5)] := by unfold am_code; rw [kd_at_3]; rfl
theorem kc_3_22 : am_code 3 22 = [.iconst (-1), .ireturn] := by unfold am_code; rw [kd_at_3]; rfl
theorem kc_3_24 : am_code 3 24 = [.aload_n 0, .getfield 21, .iload_n 2, .invokevirtual 104, .aload_n 0, .getfield 21, .iload_n 1, .invokevirtual 108, .if_icmp .eq (6)] := by unfold am_code; rw [kd_at_3]; rfl
theorem kc_3_43 : am_code 3 43 = [.bipush (-2), .ireturn] := by unfold am_code; rw [kd_at_3]; rfl
theorem kc_3_46 : am_code 3 46 = [.aload_n 0, .getfield 21, .iload_n 1, .iload_n 2, .invokevirtual 111, .iload_n 3, .if_icmp .ne (5)] := by unfold am_code; rw [kd_at_3]; rfl
theorem kc_3_59 : am_code 3 59 = [.iconst (0), .ireturn] := by unfold am_code; rw [kd_at_3]; rfl
theorem kc_3_61 : am_code 3 61 = [.aload_n 0, .getfield 21, .iload_n 1, .iload_n 2, .invokevirtual 115, .iconst (1), .ireturn] := by unfold am_code; rw [kd_at_3]; rfl
theorem kd_at_4 : am_kd 4 = kd_4 := rfl
theorem kc_4_0 : am_code 4 0 = [.aload_n 0, .getfield 14, .iload_n 1, .invokevirtual 84, .ifCond .ne (5)] := by unfold am_code; rw [kd_at_4]; rfl
theorem kc_4_11 : am_code 4 11 = [.iconst (-1), .ireturn] := by unfold am_code; rw [kd_at_4]; rfl
theorem kc_4_13 : am_code 4 13 = [.lload_n 2, .lconst 0, .lcmp, .ifCond .lt (11)] := by unfold am_code; rw [kd_at_4]; rfl
theorem kc_4_19 : am_code 4 19 = [.lload_n 2, .ldc2_w 119, .lcmp, .ifCond .le (6)] := by unfold am_code; rw [kd_at_4]; rfl
theorem kc_4_27 : am_code 4 27 = [.bipush (-2), .ireturn] := by unfold am_code; rw [kd_at_4]; rfl
theorem kc_4_30 : am_code 4 30 = [.aload_n 0, .getfield 14, .iload_n 1, .lload_n 2, .invokevirtual 121, .aload_n 0, .getfield 14, .invokevirtual 125, .ireturn] := by unfold am_code; rw [kd_at_4]; rfl
theorem kd_at_5 : am_kd 5 = kd_5 := rfl
theorem kc_5_0 : am_code 5 0 = [.aload_n 0, .getfield 14, .iload_n 1, .invokevirtual 84, .ifCond .eq (23)] := by unfold am_code; rw [kd_at_5]; rfl
theorem kc_5_11 : am_code 5 11 = [.aload_n 0, .getfield 14, .iload_n 2, .invokevirtual 84, .ifCond .eq (12)] := by unfold am_code; rw [kd_at_5]; rfl
theorem kc_5_22 : am_code 5 22 = [.iload_n 3, .ifCond .lt (8)] := by unfold am_code; rw [kd_at_5]; rfl
theorem kc_5_26 : am_code 5 26 = [.iload_n 3, .iconst (2), .if_icmp .le (6)] := by unfold am_code; rw [kd_at_5]; rfl
theorem kc_5_31 : am_code 5 31 = [.bipush (-2), .ireturn] := by unfold am_code; rw [kd_at_5]; rfl
theorem kc_5_34 : am_code 5 34 = [.iload_n 3, .iconst (2), .if_icmp .ne (22)] := by unfold am_code; rw [kd_at_5]; rfl
theorem kc_5_39 : am_code 5 39 = [.lload 4, .lconst 0, .lcmp, .ifCond .lt (12)] := by unfold am_code; rw [kd_at_5]; rfl
theorem kc_5_46 : am_code 5 46 = [.lload 4, .ldc2_w 129, .lcmp, .ifCond .le (6)] := by unfold am_code; rw [kd_at_5]; rfl
theorem kc_5_55 : am_code 5 55 = [.bipush (-2), .ireturn] := by unfold am_code; rw [kd_at_5]; rfl
theorem kc_5_58 : am_code 5 58 = [.aload_n 0, .getfield 30, .iload_n 1, .iload_n 2, .iload_n 3, .iload_n 3, .iconst (2), .if_icmp .ne (9)] := by unfold am_code; rw [kd_at_5]; rfl
theorem kc_5_70 : am_code 5 70 = [.lload 4, .l2i, .goto (4)] := by unfold am_code; rw [kd_at_5]; rfl
theorem kc_5_76 : am_code 5 76 = [.iconst (0)] := by unfold am_code; rw [kd_at_5]; rfl
theorem kc_5_77 : am_code 5 77 = [.invokevirtual 131, .aload_n 0, .iconst (1), .putfield 58, .aload_n 0, .invokevirtual 135, .ifCond .ne (12)] := by unfold am_code; rw [kd_at_5]; rfl
theorem kc_5_92 : am_code 5 92 = [.aload_n 0, .getfield 51, .invokevirtual 138, .iconst (-1), .ireturn] := by unfold am_code; rw [kd_at_5]; rfl
theorem kc_5_101 : am_code 5 101 = [.aload_n 0, .invokevirtual 141, .aload_n 0, .getfield 51, .invokevirtual 144, .ireturn] := by unfold am_code; rw [kd_at_5]; rfl
theorem kd_at_6 : am_kd 6 = kd_6 := rfl
theorem kc_6_0 : am_code 6 0 = [.aload_n 0, .getfield 51, .iload_n 1, .invokevirtual 147, .ireturn] := by unfold am_code; rw [kd_at_6]; rfl
theorem kd_at_7 : am_kd 7 = kd_7 := rfl
theorem kc_7_0 : am_code 7 0 = [.aload_n 0, .getfield 51, .invokevirtual 150, .ifCond .eq (13)] := by unfold am_code; rw [kd_at_7]; rfl
theorem kc_7_10 : am_code 7 10 = [.aload_n 0, .getfield 51, .invokevirtual 153, .goto (6)] := by unfold am_code; rw [kd_at_7]; rfl
theorem kc_7_20 : am_code 7 20 = [.ldc2_w 157] := by unfold am_code; rw [kd_at_7]; rfl
theorem kc_7_23 : am_code 7 23 = [.lreturn] := by unfold am_code; rw [kd_at_7]; rfl
theorem kd_at_8 : am_kd 8 = kd_8 := rfl
theorem kc_8_0 : am_code 8 0 = [.lload_n 1, .ldc2_w 159, .invokestatic 72, .ifCond .eq (13)] := by unfold am_code; rw [kd_at_8]; rfl
theorem kc_8_10 : am_code 8 10 = [.lload_n 3, .ldc2_w 159, .invokestatic 72, .ifCond .ne (6)] := by unfold am_code; rw [kd_at_8]; rfl
theorem kc_8_20 : am_code 8 20 = [.bipush (-2), .ireturn] := by unfold am_code; rw [kd_at_8]; rfl
theorem kc_8_23 : am_code 8 23 = [.iload 5, .iconst (-1), .if_icmp .lt (10)] := by unfold am_code; rw [kd_at_8]; rfl
theorem kc_8_29 : am_code 8 29 = [.iload 5, .bipush (7), .if_icmp .le (6)] := by unfold am_code; rw [kd_at_8]; rfl
theorem kc_8_36 : am_code 8 36 = [.bipush (-2), .ireturn] := by unfold am_code; rw [kd_at_8]; rfl
theorem kc_8_39 : am_code 8 39 = [.iconst (0), .istore 6, .ldc2_w 161, .lstore 7, .iconst (1), .istore 9] := by unfold am_code; rw [kd_at_8]; rfl
theorem kc_8_50 : am_code 8 50 = [.iload 9, .aload_n 0, .getfield 21, .invokevirtual 163, .if_icmp .gt (46)] := by unfold am_code; rw [kd_at_8]; rfl
theorem kc_8_62 : am_code 8 62 = [.aload_n 0, .iload 9, .iload 5, .invokevirtual 166, .ifCond .eq (29)] := by unfold am_code; rw [kd_at_8]; rfl
theorem kc_8_73 : am_code 8 73 = [.aload_n 0, .iload 9, .lload_n 1, .lload_n 3, .invokevirtual 169, .lstore 10, .lload 10, .lload 7, .lcmp, .ifCond .ge (11)] := by unfold am_code; rw [kd_at_8]; rfl
theorem kc_8_91 : am_code 8 91 = [.lload 10, .lstore 7, .iload 9, .istore 6] := by unfold am_code; rw [kd_at_8]; rfl
theorem kc_8_99 : am_code 8 99 = [.iinc 9 (1), .goto (-52)] := by unfold am_code; rw [kd_at_8]; rfl
theorem kc_8_105 : am_code 8 105 = [.iload 6, .ireturn] := by unfold am_code; rw [kd_at_8]; rfl
theorem kd_at_9 : am_kd 9 = kd_9 := rfl
theorem kc_9_0 : am_code 9 0 = [.aload_n 0, .getfield 21, .iload_n 1, .invokevirtual 103, .ifCond .ne (5)] := by unfold am_code; rw [kd_at_9]; rfl
theorem kc_9_11 : am_code 9 11 = [.iconst (-1), .ireturn] := by unfold am_code; rw [kd_at_9]; rfl
theorem kc_9_13 : am_code 9 13 = [.lload_n 2, .lconst 0, .lcmp, .ifCond .lt (18)] := by unfold am_code; rw [kd_at_9]; rfl
theorem kc_9_19 : am_code 9 19 = [.lload_n 2, .ldc2_w 90, .lcmp, .ifCond .gt (10)] := by unfold am_code; rw [kd_at_9]; rfl
theorem kc_9_27 : am_code 9 27 = [.lload 4, .lconst 0, .lcmp, .ifCond .ge (6)] := by unfold am_code; rw [kd_at_9]; rfl
theorem kc_9_34 : am_code 9 34 = [.bipush (-2), .ireturn] := by unfold am_code; rw [kd_at_9]; rfl
theorem kc_9_37 : am_code 9 37 = [.aload_n 0, .getfield 21, .iload_n 1, .lload_n 2, .lload 4, .invokevirtual 173, .aload_n 0, .getfield 21, .aload_n 0, .getfield 62, .lconst 1, .ladd, .invokevirtual 177, .ireturn] := by unfold am_code; rw [kd_at_9]; rfl
theorem kd_at_10 : am_kd 10 = kd_10 := rfl
theorem kc_10_0 : am_code 10 0 = [.lload_n 1, .lconst 0, .lcmp, .ifCond .ge (6)] := by unfold am_code; rw [kd_at_10]; rfl
theorem kc_10_6 : am_code 10 6 = [.bipush (-2), .ireturn] := by unfold am_code; rw [kd_at_10]; rfl
theorem kc_10_9 : am_code 10 9 = [.aload_n 0, .getfield 58, .ifCond .ne (6)] := by unfold am_code; rw [kd_at_10]; rfl
theorem kc_10_16 : am_code 10 16 = [.bipush (-3), .ireturn] := by unfold am_code; rw [kd_at_10]; rfl
theorem kc_10_19 : am_code 10 19 = [.aload_n 0, .invokevirtual 135, .ifCond .eq (11)] := by unfold am_code; rw [kd_at_10]; rfl
theorem kc_10_26 : am_code 10 26 = [.aload_n 0, .lload_n 1, .invokevirtual 181, .ifCond .ne (5)] := by unfold am_code; rw [kd_at_10]; rfl
theorem kc_10_34 : am_code 10 34 = [.iconst (0), .ireturn] := by unfold am_code; rw [kd_at_10]; rfl
theorem kc_10_36 : am_code 10 36 = [.aload_n 0, .invokevirtual 141, .iconst (1), .ireturn] := by unfold am_code; rw [kd_at_10]; rfl
theorem kd_at_11 : am_kd 11 = kd_11 := rfl
theorem kc_11_0 : am_code 11 0 = [.iload_n 1, .ifCond .lt (16)] := by unfold am_code; rw [kd_at_11]; rfl
theorem kc_11_4 : am_code 11 4 = [.iload_n 1, .aload_n 0, .getfield 51, .invokevirtual 144, .iconst (1), .isub, .if_icmp .lt (5)] := by unfold am_code; rw [kd_at_11]; rfl
theorem kc_11_17 : am_code 11 17 = [.iconst (-1), .ireturn] := by unfold am_code; rw [kd_at_11]; rfl
theorem kc_11_19 : am_code 11 19 = [.iload_n 2, .tableswitch (79) (0) (2) #[(28), (51), (62)]] := by unfold am_code; rw [kd_at_11]; rfl
theorem kc_11_48 : am_code 11 48 = [.aload_n 0, .aload_n 0, .getfield 51, .iload_n 1, .invokevirtual 147, .aload_n 0, .getfield 51, .iload_n 1, .iconst (1), .iadd, .invokevirtual 147, .invokevirtual 185, .ireturn] := by unfold am_code; rw [kd_at_11]; rfl
theorem kc_11_71 : am_code 11 71 = [.aload_n 0, .getfield 51, .iload_n 1, .iconst (1), .iadd, .invokevirtual 147, .ireturn] := by unfold am_code; rw [kd_at_11]; rfl
theorem kc_11_82 : am_code 11 82 = [.aload_n 0, .getfield 51, .iload_n 1, .invokevirtual 189, .ifCond .eq (7)] := by unfold am_code; rw [kd_at_11]; rfl
theorem kc_11_93 : am_code 11 93 = [.iconst (1), .goto (4)] := by unfold am_code; rw [kd_at_11]; rfl
theorem kc_11_97 : am_code 11 97 = [.iconst (0)] := by unfold am_code; rw [kd_at_11]; rfl
theorem kc_11_98 : am_code 11 98 = [.ireturn] := by unfold am_code; rw [kd_at_11]; rfl
theorem kc_11_99 : am_code 11 99 = [.bipush (-2), .ireturn] := by unfold am_code; rw [kd_at_11]; rfl
theorem kd_at_12 : am_kd 12 = kd_12 := rfl
theorem kc_12_0 : am_code 12 0 = [.iload_n 1, .ifCond .eq (17)] := by unfold am_code; rw [kd_at_12]; rfl
theorem kc_12_4 : am_code 12 4 = [.aload_n 0, .getfield 37, .iload_n 1, .invokevirtual 192, .ifCond .ne (6)] := by unfold am_code; rw [kd_at_12]; rfl
theorem kc_12_15 : am_code 12 15 = [.bipush (-2), .ireturn] := by unfold am_code; rw [kd_at_12]; rfl
theorem kc_12_18 : am_code 12 18 = [.iload_n 1, .ifCond .ne (13)] := by unfold am_code; rw [kd_at_12]; rfl
theorem kc_12_22 : am_code 12 22 = [.aload_n 0, .getfield 37, .invokevirtual 195, .goto (24)] := by unfold am_code; rw [kd_at_12]; rfl
theorem kc_12_32 : am_code 12 32 = [.aload_n 0, .getfield 37, .invokevirtual 198, .ifCond .eq (6)] := by unfold am_code; rw [kd_at_12]; rfl
theorem kc_12_42 : am_code 12 42 = [.bipush (-3), .ireturn] := by unfold am_code; rw [kd_at_12]; rfl
theorem kc_12_45 : am_code 12 45 = [.aload_n 0, .getfield 37, .iload_n 1, .invokevirtual 199] := by unfold am_code; rw [kd_at_12]; rfl
theorem kc_12_53 : am_code 12 53 = [.aload_n 0, .getfield 37, .aload_n 0, .getfield 14, .invokevirtual 202, .invokevirtual 203, .ireturn] := by unfold am_code; rw [kd_at_12]; rfl
theorem kd_at_13 : am_kd 13 = kd_13 := rfl
theorem kc_13_0 : am_code 13 0 = [.aload_n 0, .getfield 66, .ireturn] := by unfold am_code; rw [kd_at_13]; rfl
theorem kd_at_14 : am_kd 14 = kd_14 := rfl
theorem kc_14_0 : am_code 14 0 = [.iload_n 2, .ifCond .lt (14)] := by unfold am_code; rw [kd_at_14]; rfl
theorem kc_14_4 : am_code 14 4 = [.iload_n 2, .bipush (8), .if_icmp .ge (8)] := by unfold am_code; rw [kd_at_14]; rfl
theorem kc_14_10 : am_code 14 10 = [.iload_n 1, .iconst (1), .if_icmp .ge (6)] := by unfold am_code; rw [kd_at_14]; rfl
theorem kc_14_15 : am_code 14 15 = [.bipush (-2), .ireturn] := by unfold am_code; rw [kd_at_14]; rfl
theorem kc_14_18 : am_code 14 18 = [.aload_n 0, .getfield 44, .iload_n 1, .iload_n 2, .invokevirtual 206, .ifCond .eq (7)] := by unfold am_code; rw [kd_at_14]; rfl
theorem kc_14_30 : am_code 14 30 = [.iconst (1), .goto (4)] := by unfold am_code; rw [kd_at_14]; rfl
theorem kc_14_34 : am_code 14 34 = [.iconst (0)] := by unfold am_code; rw [kd_at_14]; rfl
theorem kc_14_35 : am_code 14 35 = [.ireturn] := by unfold am_code; rw [kd_at_14]; rfl
theorem kd_at_15 : am_kd 15 = kd_15 := rfl
theorem kc_15_0 : am_code 15 0 = [.lload_n 0, .lload_n 2, .lneg, .lcmp, .ifCond .lt (13)] := by unfold am_code; rw [kd_at_15]; rfl
theorem kc_15_7 : am_code 15 7 = [.lload_n 0, .lload_n 2, .lcmp, .ifCond .gt (7)] := by unfold am_code; rw [kd_at_15]; rfl
theorem kc_15_13 : am_code 15 13 = [.iconst (1), .goto (4)] := by unfold am_code; rw [kd_at_15]; rfl
theorem kc_15_17 : am_code 15 17 = [.iconst (0)] := by unfold am_code; rw [kd_at_15]; rfl
theorem kc_15_18 : am_code 15 18 = [.ireturn] := by unfold am_code; rw [kd_at_15]; rfl
theorem kd_at_16 : am_kd 16 = kd_16 := rfl
theorem kc_16_0 : am_code 16 0 = [.aload_n 0, .dup, .getfield 62, .lconst 1, .ladd, .putfield 62, .aload_n 0, .getfield 30, .aload_n 0, .getfield 62, .invokevirtual 209, .aload_n 0, .getfield 30, .aload_n 0, .getfield 55, .invokevirtual 213, .istore_n 1, .aload_n 0, .iload_n 1, .ifCond .eq (7)] := by unfold am_code; rw [kd_at_16]; rfl
theorem kc_16_38 : am_code 16 38 = [.iconst (0), .goto (10)] := by unfold am_code; rw [kd_at_16]; rfl
theorem kc_16_42 : am_code 16 42 = [.aload_n 0, .getfield 30, .invokevirtual 217] := by unfold am_code; rw [kd_at_16]; rfl
theorem kc_16_49 : am_code 16 49 = [.putfield 66, .iload_n 1, .ireturn] := by unfold am_code; rw [kd_at_16]; rfl
theorem kd_at_17 : am_kd 17 = kd_17 := rfl
theorem kc_17_0 : am_code 17 0 = [.aload_n 0, .getfield 51, .astore_n 1, .aload_n 0, .aload_n 0, .getfield 55, .putfield 51, .aload_n 0, .aload_n 1, .putfield 55, .return_] := by unfold am_code; rw [kd_at_17]; rfl
theorem kd_at_18 : am_kd 18 = kd_18 := rfl
theorem kc_18_0 : am_code 18 0 = [.aload_n 0, .getfield 51, .invokevirtual 150, .ifCond .ne (5)] := by unfold am_code; rw [kd_at_18]; rfl
theorem kc_18_10 : am_code 18 10 = [.iconst (1), .ireturn] := by unfold am_code; rw [kd_at_18]; rfl
theorem kc_18_12 : am_code 18 12 = [.aload_n 0, .getfield 30, .aload_n 0, .getfield 51, .invokevirtual 220, .lstore_n 3, .lload_n 3, .lconst 0, .lcmp, .ifCond .ge (5)] := by unfold am_code; rw [kd_at_18]; rfl
theorem kc_18_30 : am_code 18 30 = [.iconst (1), .ireturn] := by unfold am_code; rw [kd_at_18]; rfl
theorem kc_18_32 : am_code 18 32 = [.lload_n 3, .aload_n 0, .getfield 55, .invokevirtual 153, .lsub, .lload_n 1, .lcmp, .ifCond .lt (21)] := by unfold am_code; rw [kd_at_18]; rfl
theorem kc_18_46 : am_code 18 46 = [.aload_n 0, .getfield 51, .aload_n 0, .getfield 55, .invokevirtual 224, .ifCond .ne (7)] := by unfold am_code; rw [kd_at_18]; rfl
theorem kc_18_60 : am_code 18 60 = [.iconst (1), .goto (4)] := by unfold am_code; rw [kd_at_18]; rfl
theorem kc_18_64 : am_code 18 64 = [.iconst (0)] := by unfold am_code; rw [kd_at_18]; rfl
theorem kc_18_65 : am_code 18 65 = [.ireturn] := by unfold am_code; rw [kd_at_18]; rfl
theorem kd_at_19 : am_kd 19 = kd_19 := rfl
theorem kc_19_0 : am_code 19 0 = [.aload_n 0, .getfield 14, .aload_n 0, .getfield 21, .iload_n 1, .invokevirtual 108, .invokevirtual 227, .aload_n 0, .getfield 14, .aload_n 0, .getfield 21, .iload_n 1, .invokevirtual 104, .invokevirtual 227, .lsub, .lreturn] := by unfold am_code; rw [kd_at_19]; rfl
theorem kd_at_20 : am_kd 20 = kd_20 := rfl
theorem kc_20_0 : am_code 20 0 = [.aload_n 0, .getfield 14, .aload_n 0, .getfield 21, .iload_n 1, .invokevirtual 108, .invokevirtual 231, .aload_n 0, .getfield 14, .aload_n 0, .getfield 21, .iload_n 1, .invokevirtual 104, .invokevirtual 231, .lsub, .lreturn] := by unfold am_code; rw [kd_at_20]; rfl
theorem kd_at_21 : am_kd 21 = kd_21 := rfl
theorem kc_21_0 : am_code 21 0 = [.aload_n 0, .iload_n 1, .invokevirtual 234, .aload_n 0, .iload_n 1, .invokevirtual 237, .aload_n 0, .iload_n 2, .invokevirtual 234, .aload_n 0, .iload_n 2, .invokevirtual 237, .invokestatic 240, .ireturn] := by unfold am_code; rw [kd_at_21]; rfl
theorem kd_at_22 : am_kd 22 = kd_22 := rfl
theorem kc_22_0 : am_code 22 0 = [.iload_n 2, .ifCond .ge (5)] := by unfold am_code; rw [kd_at_22]; rfl
theorem kc_22_4 : am_code 22 4 = [.iconst (1), .ireturn] := by unfold am_code; rw [kd_at_22]; rfl
theorem kc_22_6 : am_code 22 6 = [.aload_n 0, .iload_n 1, .invokevirtual 234, .aload_n 0, .iload_n 1, .invokevirtual 237, .invokestatic 246, .istore_n 3, .iload_n 3, .ifCond .ge (5)] := by unfold am_code; rw [kd_at_22]; rfl
theorem kc_22_24 : am_code 22 24 = [.iconst (0), .ireturn] := by unfold am_code; rw [kd_at_22]; rfl
theorem kc_22_26 : am_code 22 26 = [.iload_n 3, .iload_n 2, .isub, .bipush (7), .iand, .istore 4, .iload 4, .iconst (1), .if_icmp .le (10)] := by unfold am_code; rw [kd_at_22]; rfl
theorem kc_22_40 : am_code 22 40 = [.iload 4, .bipush (7), .if_icmp .ne (7)] := by unfold am_code; rw [kd_at_22]; rfl
theorem kc_22_47 : am_code 22 47 = [.iconst (1), .goto (4)] := by unfold am_code; rw [kd_at_22]; rfl
theorem kc_22_51 : am_code 22 51 = [.iconst (0)] := by unfold am_code; rw [kd_at_22]; rfl
theorem kc_22_52 : am_code 22 52 = [.ireturn] := by unfold am_code; rw [kd_at_22]; rfl
theorem kd_at_23 : am_kd 23 = kd_23 := rfl
theorem kc_23_0 : am_code 23 0 = [.aload_n 0, .getfield 21, .iload_n 1, .invokevirtual 104, .istore 6, .lload_n 2, .aload_n 0, .getfield 14, .iload 6, .invokevirtual 227, .lsub, .lload 4, .aload_n 0, .getfield 14, .iload 6, .invokevirtual 231, .lsub, .aload_n 0, .iload_n 1, .invokevirtual 234, .aload_n 0, .iload_n 1, .invokevirtual 237, .invokestatic 249, .lreturn] := by unfold am_code; rw [kd_at_23]; rfl
theorem kd_at_24 : am_kd 24 = kd_24 := rfl
theorem kc_24_0 : am_code 24 0 = [.aload_n 0, .invokespecial 1, .aload_n 0, .bipush (61), .newarray .long, .putfield 7, .aload_n 0, .bipush (61), .newarray .long, .putfield 13, .aload_n 0, .bipush (61), .newarray .long, .putfield 16, .aload_n 0, .bipush (121), .newarray .int, .putfield 19, .aload_n 0, .bipush (121), .newarray .int, .putfield 23, .aload_n 0, .bipush (121), .newarray .long, .putfield 26, .aload_n 0, .bipush (121), .newarray .long, .putfield 29, .aload_n 0, .bipush (121), .newarray .int, .putfield 32, .aload_n 0, .bipush (121), .newarray .long, .putfield 35, .aload_n 0, .bipush (121), .newarray .long, .putfield 38, .aload_n 0, .sipush (14641), .newarray .boolean, .putfield 41, .aload_n 0, .iconst (-1), .putfield 45, .aload_n 0, .sipush (2541), .newarray .long, .putfield 49, .aload_n 0, .sipush (2541), .newarray .int, .putfield 52, .aload_n 0, .sipush (2541), .newarray .boolean, .putfield 55, .aload_n 0, .sipush (2541), .newarray .boolean, .putfield 58, .aload_n 0, .sipush (2600), .newarray .int, .putfield 61, .aload_n 0, .ldc2_w 64, .putfield 66, .aload_n 0, .sipush (2600), .newarray .boolean, .putfield 70, .aload_n 0, .sipush (2600), .newarray .int, .putfield 73, .aload_n 0, .bipush (21), .newarray .long, .putfield 76, .aload_n 0, .iconst (3), .newarray .int, .putfield 79, .return_] := by unfold am_code; rw [kd_at_24]; rfl
theorem kd_at_25 : am_kd 25 = kd_25 := rfl
theorem kc_25_0 : am_code 25 0 = [.aload_n 0, .getfield 82, .ireturn] := by unfold am_code; rw [kd_at_25]; rfl
theorem kd_at_26 : am_kd 26 = kd_26 := rfl
theorem kc_26_0 : am_code 26 0 = [.iload_n 1, .iconst (1), .if_icmp .lt (11)] := by unfold am_code; rw [kd_at_26]; rfl
theorem kc_26_5 : am_code 26 5 = [.iload_n 1, .aload_n 0, .getfield 85, .if_icmp .le (7)] := by unfold am_code; rw [kd_at_26]; rfl
theorem kc_26_13 : am_code 26 13 = [.iconst (1), .goto (4)] := by unfold am_code; rw [kd_at_26]; rfl
theorem kc_26_17 : am_code 26 17 = [.iconst (0)] := by unfold am_code; rw [kd_at_26]; rfl
theorem kc_26_18 : am_code 26 18 = [.ireturn] := by unfold am_code; rw [kd_at_26]; rfl
theorem kd_at_27 : am_kd 27 = kd_27 := rfl
theorem kc_27_0 : am_code 27 0 = [.iload_n 1, .iconst (1), .if_icmp .lt (11)] := by unfold am_code; rw [kd_at_27]; rfl
theorem kc_27_5 : am_code 27 5 = [.iload_n 1, .aload_n 0, .getfield 88, .if_icmp .le (7)] := by unfold am_code; rw [kd_at_27]; rfl
theorem kc_27_13 : am_code 27 13 = [.iconst (1), .goto (4)] := by unfold am_code; rw [kd_at_27]; rfl
theorem kc_27_17 : am_code 27 17 = [.iconst (0)] := by unfold am_code; rw [kd_at_27]; rfl
theorem kc_27_18 : am_code 27 18 = [.ireturn] := by unfold am_code; rw [kd_at_27]; rfl
theorem kd_at_28 : am_kd 28 = kd_28 := rfl
theorem kc_28_0 : am_code 28 0 = [.aload_n 0, .iconst (0), .putfield 82, .lload_n 1, .ldc2_w 91, .lcmp, .ifCond .lt (27)] := by unfold am_code; rw [kd_at_28]; rfl
theorem kc_28_13 : am_code 28 13 = [.lload_n 1, .ldc2_w 93, .lcmp, .ifCond .gt (19)] := by unfold am_code; rw [kd_at_28]; rfl
theorem kc_28_21 : am_code 28 21 = [.lload_n 3, .ldc2_w 91, .lcmp, .ifCond .lt (11)] := by unfold am_code; rw [kd_at_28]; rfl
theorem kc_28_29 : am_code 28 29 = [.lload_n 3, .ldc2_w 93, .lcmp, .ifCond .le (6)] := by unfold am_code; rw [kd_at_28]; rfl
theorem kc_28_37 : am_code 28 37 = [.bipush (-2), .ireturn] := by unfold am_code; rw [kd_at_28]; rfl
theorem kc_28_40 : am_code 28 40 = [.aload_n 0, .getfield 85, .bipush (60), .if_icmp .ne (6)] := by unfold am_code; rw [kd_at_28]; rfl
theorem kc_28_49 : am_code 28 49 = [.bipush (-4), .ireturn] := by unfold am_code; rw [kd_at_28]; rfl
theorem kc_28_52 : am_code 28 52 = [.aload_n 0, .dup, .getfield 85, .iconst (1), .iadd, .putfield 85, .aload_n 0, .getfield 7, .aload_n 0, .getfield 85, .lload_n 1, .lastore, .aload_n 0, .getfield 13, .aload_n 0, .getfield 85, .lload_n 3, .lastore, .aload_n 0, .getfield 85, .ireturn] := by unfold am_code; rw [kd_at_28]; rfl
theorem kd_at_29 : am_kd 29 = kd_29 := rfl
theorem kc_29_0 : am_code 29 0 = [.aload_n 0, .iconst (0), .putfield 82, .aload_n 0, .iload_n 1, .invokevirtual 95, .ifCond .ne (11)] := by unfold am_code; rw [kd_at_29]; rfl
theorem kc_29_13 : am_code 29 13 = [.aload_n 0, .iload_n 2, .invokevirtual 95, .ifCond .eq (5)] := by unfold am_code; rw [kd_at_29]; rfl
theorem kc_29_21 : am_code 29 21 = [.iconst (-1), .ireturn] := by unfold am_code; rw [kd_at_29]; rfl
theorem kc_29_23 : am_code 29 23 = [.iload_n 1, .iload_n 2, .if_icmp .eq (44)] := by unfold am_code; rw [kd_at_29]; rfl
theorem kc_29_28 : am_code 29 28 = [.lload_n 3, .lconst 1, .lcmp, .ifCond .lt (38)] := by unfold am_code; rw [kd_at_29]; rfl
theorem kc_29_34 : am_code 29 34 = [.lload_n 3, .ldc2_w 99, .lcmp, .ifCond .gt (30)] := by unfold am_code; rw [kd_at_29]; rfl
theorem kc_29_42 : am_code 29 42 = [.lload 5, .lconst 0, .lcmp, .ifCond .lt (23)] := by unfold am_code; rw [kd_at_29]; rfl
theorem kc_29_49 : am_code 29 49 = [.lload 5, .ldc2_w 101, .lcmp, .ifCond .gt (14)] := by unfold am_code; rw [kd_at_29]; rfl
theorem kc_29_58 : am_code 29 58 = [.iload 7, .ifCond .lt (9)] := by unfold am_code; rw [kd_at_29]; rfl
theorem kc_29_63 : am_code 29 63 = [.iload 7, .iconst (3), .if_icmp .le (6)] := by unfold am_code; rw [kd_at_29]; rfl
theorem kc_29_69 : am_code 29 69 = [.bipush (-2), .ireturn] := by unfold am_code; rw [kd_at_29]; rfl
theorem kc_29_72 : am_code 29 72 = [.aload_n 0, .getfield 88, .bipush (120), .if_icmp .ne (6)] := by unfold am_code; rw [kd_at_29]; rfl
theorem kc_29_81 : am_code 29 81 = [.bipush (-4), .ireturn] := by unfold am_code; rw [kd_at_29]; rfl
theorem kc_29_84 : am_code 29 84 = [.aload_n 0, .lload 5, .lconst 0, .lcmp, .ifCond .ne (7)] := by unfold am_code; rw [kd_at_29]; rfl
theorem kc_29_92 : am_code 29 92 = [.iconst (1), .goto (4)] := by unfold am_code; rw [kd_at_29]; rfl
theorem kc_29_96 : am_code 29 96 = [.iconst (0)] := by unfold am_code; rw [kd_at_29]; rfl
theorem kc_29_97 : am_code 29 97 = [.putfield 82, .aload_n 0, .getfield 82, .ifCond .le (5)] := by unfold am_code; rw [kd_at_29]; rfl
theorem kc_29_107 : am_code 29 107 = [.iconst (0), .ireturn] := by unfold am_code; rw [kd_at_29]; rfl
theorem kc_29_109 : am_code 29 109 = [.aload_n 0, .dup, .getfield 88, .iconst (1), .iadd, .putfield 88, .aload_n 0, .getfield 19, .aload_n 0, .getfield 88, .iload_n 1, .iastore, .aload_n 0, .getfield 23, .aload_n 0, .getfield 88, .iload_n 2, .iastore, .aload_n 0, .getfield 26, .aload_n 0, .getfield 88, .lload_n 3, .lastore, .aload_n 0, .getfield 29, .aload_n 0, .getfield 88, .lload 5, .lastore, .aload_n 0, .getfield 32, .aload_n 0, .getfield 88, .lconst 1, .lload_n 3, .lload_n 3, .iload 7, .i2l, .lmul, .ladd, .ldc2_w 103, .ldiv, .ladd, .l2i, .iastore, .aload_n 0, .getfield 38, .aload_n 0, .getfield 88, .ldc2_w 64, .lastore, .aload_n 0, .getfield 88, .ireturn] := by unfold am_code; rw [kd_at_29]; rfl
theorem kd_at_30 : am_kd 30 = kd_30 := rfl
theorem kc_30_0 : am_code 30 0 = [.aload_n 0, .iconst (0), .putfield 82, .aload_n 0, .iload_n 1, .invokevirtual 105, .ifCond .ne (11)] := by unfold am_code; rw [kd_at_30]; rfl
theorem kc_30_13 : am_code 30 13 = [.aload_n 0, .iload_n 2, .invokevirtual 105, .ifCond .eq (5)] := by unfold am_code; rw [kd_at_30]; rfl
theorem kc_30_21 : am_code 30 21 = [.iconst (-1), .ireturn] := by unfold am_code; rw [kd_at_30]; rfl
theorem kc_30_23 : am_code 30 23 = [.aload_n 0, .getfield 23, .iload_n 1, .iaload, .aload_n 0, .getfield 19, .iload_n 2, .iaload, .if_icmp .eq (6)] := by unfold am_code; rw [kd_at_30]; rfl
theorem kc_30_38 : am_code 30 38 = [.bipush (-2), .ireturn] := by unfold am_code; rw [kd_at_30]; rfl
theorem kc_30_41 : am_code 30 41 = [.aload_n 0, .getfield 41, .bipush (121), .iload_n 1, .imul, .iload_n 2, .iadd, .baload, .istore 4, .aload_n 0, .getfield 41, .bipush (121), .iload_n 1, .imul, .iload_n 2, .iadd, .iload_n 3, .bastore, .iload 4, .iload_n 3, .if_icmp .ne (7)] := by unfold am_code; rw [kd_at_30]; rfl
theorem kc_30_72 : am_code 30 72 = [.iconst (0), .goto (4)] := by unfold am_code; rw [kd_at_30]; rfl
theorem kc_30_76 : am_code 30 76 = [.iconst (1)] := by unfold am_code; rw [kd_at_30]; rfl
theorem kc_30_77 : am_code 30 77 = [.ireturn] := by unfold am_code; rw [kd_at_30]; rfl
theorem kd_at_31 : am_kd 31 = kd_31 := rfl
theorem kc_31_0 : am_code 31 0 = [.aload_n 0, .iconst (0), .putfield 82, .aload_n 0, .iload_n 1, .invokevirtual 95, .ifCond .eq (5)] := by unfold am_code; rw [kd_at_31]; rfl
theorem kc_31_13 : am_code 31 13 = [.iconst (-1), .ireturn] := by unfold am_code; rw [kd_at_31]; rfl
theorem kc_31_15 : am_code 31 15 = [.lload_n 2, .lconst 0, .lcmp, .ifCond .lt (11)] := by unfold am_code; rw [kd_at_31]; rfl
theorem kc_31_21 : am_code 31 21 = [.lload_n 2, .ldc2_w 108, .lcmp, .ifCond .le (6)] := by unfold am_code; rw [kd_at_31]; rfl
theorem kc_31_29 : am_code 31 29 = [.bipush (-2), .ireturn] := by unfold am_code; rw [kd_at_31]; rfl
theorem kc_31_32 : am_code 31 32 = [.aload_n 0, .getfield 16, .iload_n 1, .lload_n 2, .lastore, .iconst (0), .istore 4, .iconst (1), .istore 5] := by unfold am_code; rw [kd_at_31]; rfl
theorem kc_31_45 : am_code 31 45 = [.iload 5, .aload_n 0, .getfield 85, .if_icmp .gt (32)] := by unfold am_code; rw [kd_at_31]; rfl
theorem kc_31_54 : am_code 31 54 = [.aload_n 0, .getfield 16, .iload 5, .laload, .lconst 0, .lcmp, .ifCond .le (10)] := by unfold am_code; rw [kd_at_31]; rfl
theorem kc_31_66 : am_code 31 66 = [.iload 4, .iconst (1), .iadd, .goto (5)] := by unfold am_code; rw [kd_at_31]; rfl
theorem kc_31_73 : am_code 31 73 = [.iload 4] := by unfold am_code; rw [kd_at_31]; rfl
theorem kc_31_75 : am_code 31 75 = [.istore 4, .iinc 5 (1), .goto (-35)] := by unfold am_code; rw [kd_at_31]; rfl
theorem kc_31_83 : am_code 31 83 = [.iload 4, .ireturn] := by unfold am_code; rw [kd_at_31]; rfl
theorem kd_at_32 : am_kd 32 = kd_32 := rfl
theorem kc_32_0 : am_code 32 0 = [.aload_n 0, .iconst (0), .putfield 82, .aload_n 0, .iload_n 1, .invokevirtual 105, .ifCond .eq (5)] := by unfold am_code; rw [kd_at_32]; rfl
theorem kc_32_13 : am_code 32 13 = [.iconst (-1), .ireturn] := by unfold am_code; rw [kd_at_32]; rfl
theorem kc_32_15 : am_code 32 15 = [.lload_n 2, .lconst 0, .lcmp, .ifCond .lt (18)] := by unfold am_code; rw [kd_at_32]; rfl
theorem kc_32_21 : am_code 32 21 = [.lload_n 2, .ldc2_w 101, .lcmp, .ifCond .gt (10)] := by unfold am_code; rw [kd_at_32]; rfl
theorem kc_32_29 : am_code 32 29 = [.lload 4, .lconst 0, .lcmp, .ifCond .ge (6)] := by unfold am_code; rw [kd_at_32]; rfl
theorem kc_32_36 : am_code 32 36 = [.bipush (-2), .ireturn] := by unfold am_code; rw [kd_at_32]; rfl
theorem kc_32_39 : am_code 32 39 = [.aload_n 0, .getfield 35, .iload_n 1, .lload_n 2, .lastore, .aload_n 0, .getfield 38, .iload_n 1, .lload 4, .lastore, .iconst (0), .istore 6, .iconst (1), .istore 7] := by unfold am_code; rw [kd_at_32]; rfl
theorem kc_32_60 : am_code 32 60 = [.iload 7, .aload_n 0, .getfield 88, .if_icmp .gt (35)] := by unfold am_code; rw [kd_at_32]; rfl
theorem kc_32_69 : am_code 32 69 = [.aload_n 0, .getfield 38, .iload 7, .laload, .aload_n 0, .getfield 110, .lcmp, .ifCond .le (10)] := by unfold am_code; rw [kd_at_32]; rfl
theorem kc_32_84 : am_code 32 84 = [.iload 6, .iconst (1), .iadd, .goto (5)] := by unfold am_code; rw [kd_at_32]; rfl
theorem kc_32_91 : am_code 32 91 = [.iload 6] := by unfold am_code; rw [kd_at_32]; rfl
theorem kc_32_93 : am_code 32 93 = [.istore 6, .iinc 7 (1), .goto (-38)] := by unfold am_code; rw [kd_at_32]; rfl
theorem kc_32_101 : am_code 32 101 = [.iload 6, .ireturn] := by unfold am_code; rw [kd_at_32]; rfl
theorem kd_at_33 : am_kd 33 = kd_33 := rfl
theorem kc_33_0 : am_code 33 0 = [.aload_n 0, .getfield 38, .iload_n 1, .laload, .aload_n 0, .getfield 110, .lcmp, .ifCond .lt (12)] := by unfold am_code; rw [kd_at_33]; rfl
theorem kc_33_14 : am_code 33 14 = [.aload_n 0, .getfield 35, .iload_n 1, .laload, .goto (9)] := by unfold am_code; rw [kd_at_33]; rfl
theorem kc_33_23 : am_code 33 23 = [.aload_n 0, .getfield 29, .iload_n 1, .laload] := by unfold am_code; rw [kd_at_33]; rfl
theorem kc_33_29 : am_code 33 29 = [.lstore_n 2, .lload_n 2, .lconst 0, .lcmp, .ifCond .ne (7)] := by unfold am_code; rw [kd_at_33]; rfl
theorem kc_33_36 : am_code 33 36 = [.ldc2_w 64, .lreturn] := by unfold am_code; rw [kd_at_33]; rfl
theorem kc_33_40 : am_code 33 40 = [.aload_n 0, .getfield 45, .iconst (1), .if_icmp .ne (12)] := by unfold am_code; rw [kd_at_33]; rfl
theorem kc_33_48 : am_code 33 48 = [.aload_n 0, .getfield 26, .iload_n 1, .laload, .goto (15)] := by unfold am_code; rw [kd_at_33]; rfl
theorem kc_33_57 : am_code 33 57 = [.aload_n 0, .getfield 26, .iload_n 1, .laload, .ldc2_w 101, .lmul, .lload_n 2, .ldiv] := by unfold am_code; rw [kd_at_33]; rfl
theorem kc_33_69 : am_code 33 69 = [.lreturn] := by unfold am_code; rw [kd_at_33]; rfl
theorem kd_at_34 : am_kd 34 = kd_34 := rfl
theorem kc_34_0 : am_code 34 0 = [.aload_n 0, .getfield 45, .iconst (2), .if_icmp .ne (14)] := by unfold am_code; rw [kd_at_34]; rfl
theorem kc_34_8 : am_code 34 8 = [.aload_n 0, .getfield 16, .iload_n 1, .laload, .lconst 0, .lcmp, .ifCond .ne (7)] := by unfold am_code; rw [kd_at_34]; rfl
theorem kc_34_19 : am_code 34 19 = [.ldc2_w 64, .lreturn] := by unfold am_code; rw [kd_at_34]; rfl
theorem kc_34_23 : am_code 34 23 = [.aload_n 0, .getfield 16, .iload_n 1, .laload, .ldc2_w 101, .lcmp, .ifCond .le (7)] := by unfold am_code; rw [kd_at_34]; rfl
theorem kc_34_36 : am_code 34 36 = [.lconst 1, .goto (13)] := by unfold am_code; rw [kd_at_34]; rfl
theorem kc_34_40 : am_code 34 40 = [.ldc2_w 101, .aload_n 0, .getfield 16, .iload_n 1, .laload, .ldiv] := by unfold am_code; rw [kd_at_34]; rfl
theorem kc_34_50 : am_code 34 50 = [.lreturn] := by unfold am_code; rw [kd_at_34]; rfl
theorem kd_at_35 : am_kd 35 = kd_35 := rfl
theorem kc_35_0 : am_code 35 0 = [.aload_n 0, .getfield 45, .iconst (2), .if_icmp .ne (8)] := by unfold am_code; rw [kd_at_35]; rfl
theorem kc_35_8 : am_code 35 8 = [.bipush (20), .goto (4)] := by unfold am_code; rw [kd_at_35]; rfl
theorem kc_35_13 : am_code 35 13 = [.iconst (0)] := by unfold am_code; rw [kd_at_35]; rfl
theorem kc_35_14 : am_code 35 14 = [.ireturn] := by unfold am_code; rw [kd_at_35]; rfl
theorem kd_at_36 : am_kd 36 = kd_36 := rfl
theorem kc_36_0 : am_code 36 0 = [.aload_n 0, .getfield 45, .iconst (2), .if_icmp .ne (12)] := by unfold am_code; rw [kd_at_36]; rfl
theorem kc_36_8 : am_code 36 8 = [.aload_n 0, .getfield 32, .iload_n 1, .iaload, .goto (4)] := by unfold am_code; rw [kd_at_36]; rfl
theorem kc_36_17 : am_code 36 17 = [.iconst (0)] := by unfold am_code; rw [kd_at_36]; rfl
theorem kc_36_18 : am_code 36 18 = [.ireturn] := by unfold am_code; rw [kd_at_36]; rfl
theorem kd_at_37 : am_kd 37 = kd_37 := rfl
theorem kc_37_0 : am_code 37 0 = [.iload_n 1, .ifCond .ne (10)] := by unfold am_code; rw [kd_at_37]; rfl
theorem kc_37_4 : am_code 37 4 = [.aload_n 0, .getfield 113, .goto (9)] := by unfold am_code; rw [kd_at_37]; rfl
theorem kc_37_11 : am_code 37 11 = [.aload_n 0, .getfield 23, .iload_n 1, .iaload] := by unfold am_code; rw [kd_at_37]; rfl
theorem kc_37_17 : am_code 37 17 = [.ireturn] := by unfold am_code; rw [kd_at_37]; rfl
theorem kd_at_38 : am_kd 38 = kd_38 := rfl
theorem kc_38_0 : am_code 38 0 = [.aload_n 0, .getfield 19, .iload_n 3, .iaload, .aload_n 0, .iload_n 1, .invokevirtual 116, .if_icmp .ne (44)] := by unfold am_code; rw [kd_at_38]; rfl
theorem kc_38_14 : am_code 38 14 = [.aload_n 0, .iload_n 3, .invokevirtual 120, .lconst 0, .lcmp, .ifCond .lt (34)] := by unfold am_code; rw [kd_at_38]; rfl
theorem kc_38_24 : am_code 38 24 = [.iload_n 2, .aload_n 0, .iload_n 3, .invokevirtual 124, .if_icmp .lt (25)] := by unfold am_code; rw [kd_at_38]; rfl
theorem kc_38_33 : am_code 38 33 = [.iload_n 1, .ifCond .eq (17)] := by unfold am_code; rw [kd_at_38]; rfl
theorem kc_38_37 : am_code 38 37 = [.aload_n 0, .getfield 41, .bipush (121), .iload_n 1, .imul, .iload_n 3, .iadd, .baload, .ifCond .ne (7)] := by unfold am_code; rw [kd_at_38]; rfl
theorem kc_38_51 : am_code 38 51 = [.iconst (1), .goto (4)] := by unfold am_code; rw [kd_at_38]; rfl
theorem kc_38_55 : am_code 38 55 = [.iconst (0)] := by unfold am_code; rw [kd_at_38]; rfl
theorem kc_38_56 : am_code 38 56 = [.ireturn] := by unfold am_code; rw [kd_at_38]; rfl
theorem kd_at_39 : am_kd 39 = kd_39 := rfl
theorem kc_39_0 : am_code 39 0 = [.aload_n 0, .getfield 49, .iload_n 1, .laload, .lconst 0, .lcmp, .ifCond .lt (38)] := by unfold am_code; rw [kd_at_39]; rfl
theorem kc_39_11 : am_code 39 11 = [.aload_n 0, .getfield 49, .iload_n 1, .laload, .lload_n 2, .lcmp, .ifCond .lt (25)] := by unfold am_code; rw [kd_at_39]; rfl
theorem kc_39_22 : am_code 39 22 = [.aload_n 0, .getfield 49, .iload_n 1, .laload, .lload_n 2, .lcmp, .ifCond .ne (16)] := by unfold am_code; rw [kd_at_39]; rfl
theorem kc_39_33 : am_code 39 33 = [.aload_n 0, .getfield 52, .iload_n 1, .iaload, .iload 4, .if_icmp .gt (5)] := by unfold am_code; rw [kd_at_39]; rfl
theorem kc_39_44 : am_code 39 44 = [.iconst (0), .ireturn] := by unfold am_code; rw [kd_at_39]; rfl
theorem kc_39_46 : am_code 39 46 = [.aload_n 0, .getfield 49, .iload_n 1, .lload_n 2, .lastore, .aload_n 0, .getfield 52, .iload_n 1, .iload 4, .iastore, .iconst (1), .ireturn] := by unfold am_code; rw [kd_at_39]; rfl
theorem kd_at_40 : am_kd 40 = kd_40 := rfl
theorem kc_40_0 : am_code 40 0 = [.iconst (0), .istore_n 1] := by unfold am_code; rw [kd_at_40]; rfl
theorem kc_40_2 : am_code 40 2 = [.iload_n 1, .sipush (2541), .if_icmp .ge (76)] := by unfold am_code; rw [kd_at_40]; rfl
theorem kc_40_9 : am_code 40 9 = [.iload_n 1, .bipush (21), .idiv, .aload_n 0, .getfield 88, .if_icmp .gt (33)] := by unfold am_code; rw [kd_at_40]; rfl
theorem kc_40_20 : am_code 40 20 = [.iload_n 1, .bipush (21), .irem, .aload_n 0, .invokevirtual 127, .if_icmp .gt (22)] := by unfold am_code; rw [kd_at_40]; rfl
theorem kc_40_31 : am_code 40 31 = [.aload_n 0, .iload_n 1, .bipush (21), .idiv, .invokevirtual 116, .aload_n 0, .getfield 131, .if_icmp .ne (7)] := by unfold am_code; rw [kd_at_40]; rfl
theorem kc_40_46 : am_code 40 46 = [.iconst (1), .goto (4)] := by unfold am_code; rw [kd_at_40]; rfl
theorem kc_40_50 : am_code 40 50 = [.iconst (0)] := by unfold am_code; rw [kd_at_40]; rfl
theorem kc_40_51 : am_code 40 51 = [.istore_n 2, .aload_n 0, .getfield 49, .iload_n 1, .iload_n 2, .ifCond .eq (7)] := by unfold am_code; rw [kd_at_40]; rfl
theorem kc_40_61 : am_code 40 61 = [.lconst 0, .goto (6)] := by unfold am_code; rw [kd_at_40]; rfl
theorem kc_40_65 : am_code 40 65 = [.ldc2_w 64] := by unfold am_code; rw [kd_at_40]; rfl
theorem kc_40_68 : am_code 40 68 = [.lastore, .aload_n 0, .getfield 52, .iload_n 1, .iconst (0), .iastore, .iinc 1 (1), .goto (-77)] := by unfold am_code; rw [kd_at_40]; rfl
theorem kc_40_82 : am_code 40 82 = [.iconst (1), .istore_n 1] := by unfold am_code; rw [kd_at_40]; rfl
theorem kc_40_84 : am_code 40 84 = [.iload_n 1, .ifCond .eq (239)] := by unfold am_code; rw [kd_at_40]; rfl
theorem kc_40_88 : am_code 40 88 = [.iconst (0), .istore_n 1, .aload_n 0, .getfield 88, .istore_n 2] := by unfold am_code; rw [kd_at_40]; rfl
theorem kc_40_95 : am_code 40 95 = [.iload_n 2, .ifCond .lt (225)] := by unfold am_code; rw [kd_at_40]; rfl
theorem kc_40_99 : am_code 40 99 = [.iconst (0), .istore_n 3] := by unfold am_code; rw [kd_at_40]; rfl
theorem kc_40_101 : am_code 40 101 = [.iload_n 3, .aload_n 0, .invokevirtual 127, .if_icmp .gt (209)] := by unfold am_code; rw [kd_at_40]; rfl
theorem kc_40_109 : am_code 40 109 = [.bipush (21), .iload_n 2, .imul, .iload_n 3, .iadd, .istore 4, .aload_n 0, .aload_n 0, .iload_n 2, .invokevirtual 116, .invokevirtual 134, .lstore 5, .lload 5, .lconst 0, .lcmp, .ifCond .lt (63)] := by unfold am_code; rw [kd_at_40]; rfl
theorem kc_40_135 : am_code 40 135 = [.iload_n 3, .bipush (20), .if_icmp .ge (57)] := by unfold am_code; rw [kd_at_40]; rfl
theorem kc_40_141 : am_code 40 141 = [.aload_n 0, .getfield 49, .iload 4, .iconst (1), .iadd, .laload, .lconst 0, .lcmp, .ifCond .lt (43)] := by unfold am_code; rw [kd_at_40]; rfl
theorem kc_40_155 : am_code 40 155 = [.aload_n 0, .iload 4, .aload_n 0, .getfield 49, .iload 4, .iconst (1), .iadd, .laload, .lload 5, .ladd, .aload_n 0, .getfield 52, .iload 4, .iconst (1), .iadd, .iaload, .invokevirtual 137, .ifCond .ne (7)] := by unfold am_code; rw [kd_at_40]; rfl
theorem kc_40_185 : am_code 40 185 = [.iload_n 1, .ifCond .eq (7)] := by unfold am_code; rw [kd_at_40]; rfl
theorem kc_40_189 : am_code 40 189 = [.iconst (1), .goto (4)] := by unfold am_code; rw [kd_at_40]; rfl
theorem kc_40_193 : am_code 40 193 = [.iconst (0)] := by unfold am_code; rw [kd_at_40]; rfl
theorem kc_40_194 : am_code 40 194 = [.istore_n 1] := by unfold am_code; rw [kd_at_40]; rfl
theorem kc_40_195 : am_code 40 195 = [.iconst (1), .istore 7] := by unfold am_code; rw [kd_at_40]; rfl
theorem kc_40_198 : am_code 40 198 = [.iload 7, .aload_n 0, .getfield 88, .if_icmp .gt (105)] := by unfold am_code; rw [kd_at_40]; rfl
theorem kc_40_207 : am_code 40 207 = [.bipush (21), .iload 7, .imul, .iload_n 3, .iadd, .aload_n 0, .iload 7, .invokevirtual 124, .isub, .istore 8, .aload_n 0, .getfield 19, .iload 7, .iaload, .aload_n 0, .iload_n 2, .invokevirtual 116, .if_icmp .ne (68)] := by unfold am_code; rw [kd_at_40]; rfl
theorem kc_40_238 : am_code 40 238 = [.aload_n 0, .iload_n 2, .iload_n 3, .iload 7, .invokevirtual 141, .ifCond .eq (57)] := by unfold am_code; rw [kd_at_40]; rfl
theorem kc_40_249 : am_code 40 249 = [.aload_n 0, .getfield 49, .iload 8, .laload, .lconst 0, .lcmp, .ifCond .lt (45)] := by unfold am_code; rw [kd_at_40]; rfl
theorem kc_40_261 : am_code 40 261 = [.aload_n 0, .iload 4, .aload_n 0, .getfield 49, .iload 8, .laload, .aload_n 0, .iload 7, .invokevirtual 120, .ladd, .aload_n 0, .getfield 52, .iload 8, .iaload, .iconst (1), .iadd, .invokevirtual 137, .ifCond .ne (7)] := by unfold am_code; rw [kd_at_40]; rfl
theorem kc_40_293 : am_code 40 293 = [.iload_n 1, .ifCond .eq (7)] := by unfold am_code; rw [kd_at_40]; rfl
theorem kc_40_297 : am_code 40 297 = [.iconst (1), .goto (4)] := by unfold am_code; rw [kd_at_40]; rfl
theorem kc_40_301 : am_code 40 301 = [.iconst (0)] := by unfold am_code; rw [kd_at_40]; rfl
theorem kc_40_302 : am_code 40 302 = [.istore_n 1] := by unfold am_code; rw [kd_at_40]; rfl
theorem kc_40_303 : am_code 40 303 = [.iinc 7 (1), .goto (-108)] := by unfold am_code; rw [kd_at_40]; rfl
theorem kc_40_309 : am_code 40 309 = [.iinc 3 (1), .goto (-211)] := by unfold am_code; rw [kd_at_40]; rfl
theorem kc_40_315 : am_code 40 315 = [.iinc 2 (-1), .goto (-223)] := by unfold am_code; rw [kd_at_40]; rfl
theorem kc_40_321 : am_code 40 321 = [.goto (-237)] := by unfold am_code; rw [kd_at_40]; rfl
theorem kc_40_324 : am_code 40 324 = [.return_] := by unfold am_code; rw [kd_at_40]; rfl
theorem kd_at_41 : am_kd 41 = kd_41 := rfl
theorem kc_41_0 : am_code 41 0 = [.iconst (0), .istore_n 1] := by unfold am_code; rw [kd_at_41]; rfl
theorem kc_41_2 : am_code 41 2 = [.iload_n 1, .aload_n 0, .getfield 88, .if_icmp .gt (127)] := by unfold am_code; rw [kd_at_41]; rfl
theorem kc_41_10 : am_code 41 10 = [.aload_n 0, .aload_n 0, .iload_n 1, .invokevirtual 116, .invokevirtual 134, .lstore_n 2, .iconst (0), .istore 4] := by unfold am_code; rw [kd_at_41]; rfl
theorem kc_41_23 : am_code 41 23 = [.iload 4, .aload_n 0, .invokevirtual 127, .if_icmp .ge (99)] := by unfold am_code; rw [kd_at_41]; rfl
theorem kc_41_32 : am_code 41 32 = [.lload_n 2, .lconst 0, .lcmp, .ifCond .lt (93)] := by unfold am_code; rw [kd_at_41]; rfl
theorem kc_41_38 : am_code 41 38 = [.bipush (21), .iload_n 1, .imul, .iload 4, .iadd, .istore 5, .aload_n 0, .getfield 55, .iload 5, .baload, .ifCond .eq (68)] := by unfold am_code; rw [kd_at_41]; rfl
theorem kc_41_57 : am_code 41 57 = [.aload_n 0, .getfield 49, .iload 5, .iconst (1), .iadd, .laload, .lconst 0, .lcmp, .ifCond .lt (54)] := by unfold am_code; rw [kd_at_41]; rfl
theorem kc_41_71 : am_code 41 71 = [.aload_n 0, .getfield 49, .iload 5, .iconst (1), .iadd, .laload, .lload_n 2, .ladd, .aload_n 0, .getfield 49, .iload 5, .laload, .lcmp, .ifCond .ne (32)] := by unfold am_code; rw [kd_at_41]; rfl
theorem kc_41_93 : am_code 41 93 = [.aload_n 0, .getfield 52, .iload 5, .iconst (1), .iadd, .iaload, .aload_n 0, .getfield 52, .iload 5, .iaload, .if_icmp .ne (13)] := by unfold am_code; rw [kd_at_41]; rfl
theorem kc_41_112 : am_code 41 112 = [.aload_n 0, .getfield 55, .iload 5, .iconst (1), .iadd, .iconst (1), .bastore] := by unfold am_code; rw [kd_at_41]; rfl
theorem kc_41_122 : am_code 41 122 = [.iinc 4 (1), .goto (-102)] := by unfold am_code; rw [kd_at_41]; rfl
theorem kc_41_128 : am_code 41 128 = [.iinc 1 (1), .goto (-129)] := by unfold am_code; rw [kd_at_41]; rfl
theorem kc_41_134 : am_code 41 134 = [.return_] := by unfold am_code; rw [kd_at_41]; rfl
theorem kd_at_42 : am_kd 42 = kd_42 := rfl
theorem kc_42_0 : am_code 42 0 = [.iconst (0), .istore_n 2, .iconst (0), .istore_n 3] := by unfold am_code; rw [kd_at_42]; rfl
theorem kc_42_4 : am_code 42 4 = [.iload_n 3, .aload_n 0, .getfield 88, .if_icmp .gt (141)] := by unfold am_code; rw [kd_at_42]; rfl
theorem kc_42_12 : am_code 42 12 = [.aload_n 0, .iload_n 1, .invokevirtual 124, .istore 4] := by unfold am_code; rw [kd_at_42]; rfl
theorem kc_42_19 : am_code 42 19 = [.iload 4, .aload_n 0, .invokevirtual 127, .if_icmp .gt (119)] := by unfold am_code; rw [kd_at_42]; rfl
theorem kc_42_28 : am_code 42 28 = [.bipush (21), .iload_n 3, .imul, .iload 4, .iadd, .istore 5, .bipush (21), .iload_n 1, .imul, .iload 4, .iadd, .aload_n 0, .iload_n 1, .invokevirtual 124, .isub, .istore 6, .aload_n 0, .getfield 55, .iload 5, .baload, .ifCond .eq (79)] := by unfold am_code; rw [kd_at_42]; rfl
theorem kc_42_62 : am_code 42 62 = [.aload_n 0, .iload_n 3, .iload 4, .iload_n 1, .invokevirtual 141, .ifCond .eq (68)] := by unfold am_code; rw [kd_at_42]; rfl
theorem kc_42_73 : am_code 42 73 = [.aload_n 0, .getfield 49, .iload 6, .laload, .lconst 0, .lcmp, .ifCond .lt (56)] := by unfold am_code; rw [kd_at_42]; rfl
theorem kc_42_85 : am_code 42 85 = [.aload_n 0, .getfield 49, .iload 6, .laload, .aload_n 0, .iload_n 1, .invokevirtual 120, .ladd, .aload_n 0, .getfield 49, .iload 5, .laload, .lcmp, .ifCond .ne (32)] := by unfold am_code; rw [kd_at_42]; rfl
theorem kc_42_109 : am_code 42 109 = [.aload_n 0, .getfield 52, .iload 6, .iaload, .iconst (1), .iadd, .aload_n 0, .getfield 52, .iload 5, .iaload, .if_icmp .ne (13)] := by unfold am_code; rw [kd_at_42]; rfl
theorem kc_42_128 : am_code 42 128 = [.aload_n 0, .getfield 58, .iload 6, .iconst (1), .bastore, .iconst (1), .istore_n 2] := by unfold am_code; rw [kd_at_42]; rfl
theorem kc_42_138 : am_code 42 138 = [.iinc 4 (1), .goto (-122)] := by unfold am_code; rw [kd_at_42]; rfl
theorem kc_42_144 : am_code 42 144 = [.iinc 3 (1), .goto (-143)] := by unfold am_code; rw [kd_at_42]; rfl
theorem kc_42_150 : am_code 42 150 = [.iload_n 2, .ireturn] := by unfold am_code; rw [kd_at_42]; rfl
theorem kd_at_43 : am_kd 43 = kd_43 := rfl
theorem kc_43_0 : am_code 43 0 = [.aload_n 0, .dup, .getfield 110, .lconst 1, .ladd, .putfield 110, .aload_n 0, .getfield 45, .iconst (2), .if_icmp .ne (10)] := by unfold am_code; rw [kd_at_43]; rfl
theorem kc_43_18 : am_code 43 18 = [.aload_n 0, .getfield 145, .goto (4)] := by unfold am_code; rw [kd_at_43]; rfl
theorem kc_43_25 : am_code 43 25 = [.iconst (0)] := by unfold am_code; rw [kd_at_43]; rfl
theorem kc_43_26 : am_code 43 26 = [.istore_n 1, .aload_n 0, .invokevirtual 148, .aload_n 0, .iconst (0), .putfield 151, .aload_n 0, .iconst (0), .putfield 154, .aload_n 0, .getfield 49, .iload_n 1, .laload, .lconst 0, .lcmp, .ifCond .ge (18)] := by unfold am_code; rw [kd_at_43]; rfl
theorem kc_43_52 : am_code 43 52 = [.aload_n 0, .getfield 45, .iconst (2), .if_icmp .ne (8)] := by unfold am_code; rw [kd_at_43]; rfl
theorem kc_43_60 : am_code 43 60 = [.aload_n 0, .iload_n 1, .invokevirtual 157] := by unfold am_code; rw [kd_at_43]; rfl
theorem kc_43_65 : am_code 43 65 = [.iconst (0), .ireturn] := by unfold am_code; rw [kd_at_43]; rfl
theorem kc_43_67 : am_code 43 67 = [.aload_n 0, .aload_n 0, .getfield 49, .iload_n 1, .laload, .putfield 161, .iconst (0), .istore_n 2] := by unfold am_code; rw [kd_at_43]; rfl
theorem kc_43_79 : am_code 43 79 = [.iload_n 2, .sipush (2541), .if_icmp .ge (25)] := by unfold am_code; rw [kd_at_43]; rfl
theorem kc_43_86 : am_code 43 86 = [.aload_n 0, .getfield 55, .iload_n 2, .iload_n 2, .iload_n 1, .if_icmp .ne (7)] := by unfold am_code; rw [kd_at_43]; rfl
theorem kc_43_96 : am_code 43 96 = [.iconst (1), .goto (4)] := by unfold am_code; rw [kd_at_43]; rfl
theorem kc_43_100 : am_code 43 100 = [.iconst (0)] := by unfold am_code; rw [kd_at_43]; rfl
theorem kc_43_101 : am_code 43 101 = [.bastore, .iinc 2 (1), .goto (-26)] := by unfold am_code; rw [kd_at_43]; rfl
theorem kc_43_108 : am_code 43 108 = [.aload_n 0, .getfield 52, .iload_n 1, .iaload, .istore_n 2] := by unfold am_code; rw [kd_at_43]; rfl
theorem kc_43_115 : am_code 43 115 = [.aload_n 0, .getfield 151, .iload_n 2, .if_icmp .ge (99)] := by unfold am_code; rw [kd_at_43]; rfl
theorem kc_43_123 : am_code 43 123 = [.aload_n 0, .invokevirtual 164, .iconst (0), .istore_n 3] := by unfold am_code; rw [kd_at_43]; rfl
theorem kc_43_129 : am_code 43 129 = [.iload_n 3, .sipush (2541), .if_icmp .ge (16)] := by unfold am_code; rw [kd_at_43]; rfl
theorem kc_43_136 : am_code 43 136 = [.aload_n 0, .getfield 58, .iload_n 3, .iconst (0), .bastore, .iinc 3 (1), .goto (-17)] := by unfold am_code; rw [kd_at_43]; rfl
theorem kc_43_149 : am_code 43 149 = [.iconst (1), .istore_n 3] := by unfold am_code; rw [kd_at_43]; rfl
theorem kc_43_151 : am_code 43 151 = [.aload_n 0, .iload_n 3, .invokevirtual 167, .ifCond .ne (9)] := by unfold am_code; rw [kd_at_43]; rfl
theorem kc_43_159 : am_code 43 159 = [.iinc 3 (1), .goto (-11)] := by unfold am_code; rw [kd_at_43]; rfl
theorem kc_43_165 : am_code 43 165 = [.aload_n 0, .getfield 73, .aload_n 0, .getfield 151, .iload_n 3, .iastore, .aload_n 0, .dup, .getfield 151, .iconst (1), .iadd, .putfield 151, .iconst (0), .istore 4] := by unfold am_code; rw [kd_at_43]; rfl
theorem kc_43_188 : am_code 43 188 = [.iload 4, .sipush (2541), .if_icmp .ge (23)] := by unfold am_code; rw [kd_at_43]; rfl
theorem kc_43_196 : am_code 43 196 = [.aload_n 0, .getfield 55, .iload 4, .aload_n 0, .getfield 58, .iload 4, .baload, .bastore, .iinc 4 (1), .goto (-25)] := by unfold am_code; rw [kd_at_43]; rfl
theorem kc_43_216 : am_code 43 216 = [.goto (-101)] := by unfold am_code; rw [kd_at_43]; rfl
theorem kc_43_219 : am_code 43 219 = [.iconst (1), .ireturn] := by unfold am_code; rw [kd_at_43]; rfl
theorem kd_at_44 : am_kd 44 = kd_44 := rfl
theorem kc_44_0 : am_code 44 0 = [.aload_n 0, .getfield 7, .iload_n 1, .laload, .aload_n 0, .getfield 7, .aload_n 0, .getfield 131, .laload, .lsub, .aload_n 0, .getfield 7, .iload_n 1, .laload, .aload_n 0, .getfield 7, .aload_n 0, .getfield 131, .laload, .lsub, .lmul, .aload_n 0, .getfield 13, .iload_n 1, .laload, .aload_n 0, .getfield 13, .aload_n 0, .getfield 131, .laload, .lsub, .aload_n 0, .getfield 13, .iload_n 1, .laload, .aload_n 0, .getfield 13, .aload_n 0, .getfield 131, .laload, .lsub, .lmul, .ladd, .lreturn] := by unfold am_code; rw [kd_at_44]; rfl
theorem kd_at_45 : am_kd 45 = kd_45 := rfl
theorem kc_45_0 : am_code 45 0 = [.iconst (0), .istore_n 2] := by unfold am_code; rw [kd_at_45]; rfl
theorem kc_45_2 : am_code 45 2 = [.iload_n 2, .sipush (2541), .if_icmp .ge (25)] := by unfold am_code; rw [kd_at_45]; rfl
theorem kc_45_9 : am_code 45 9 = [.aload_n 0, .getfield 55, .iload_n 2, .iload_n 2, .iload_n 1, .if_icmp .ne (7)] := by unfold am_code; rw [kd_at_45]; rfl
theorem kc_45_19 : am_code 45 19 = [.iconst (1), .goto (4)] := by unfold am_code; rw [kd_at_45]; rfl
theorem kc_45_23 : am_code 45 23 = [.iconst (0)] := by unfold am_code; rw [kd_at_45]; rfl
theorem kc_45_24 : am_code 45 24 = [.bastore, .iinc 2 (1), .goto (-26)] := by unfold am_code; rw [kd_at_45]; rfl
theorem kc_45_31 : am_code 45 31 = [.iconst (1), .istore_n 2] := by unfold am_code; rw [kd_at_45]; rfl
theorem kc_45_33 : am_code 45 33 = [.iload_n 2, .ifCond .eq (174)] := by unfold am_code; rw [kd_at_45]; rfl
theorem kc_45_37 : am_code 45 37 = [.iconst (0), .istore_n 2, .iconst (0), .istore_n 3] := by unfold am_code; rw [kd_at_45]; rfl
theorem kc_45_41 : am_code 45 41 = [.iload_n 3, .aload_n 0, .getfield 88, .if_icmp .gt (159)] := by unfold am_code; rw [kd_at_45]; rfl
theorem kc_45_49 : am_code 45 49 = [.iconst (0), .istore 4] := by unfold am_code; rw [kd_at_45]; rfl
theorem kc_45_52 : am_code 45 52 = [.iload 4, .bipush (20), .if_icmp .gt (143)] := by unfold am_code; rw [kd_at_45]; rfl
theorem kc_45_59 : am_code 45 59 = [.bipush (21), .iload_n 3, .imul, .iload 4, .iadd, .istore 5, .aload_n 0, .getfield 55, .iload 5, .baload, .ifCond .ne (6)] := by unfold am_code; rw [kd_at_45]; rfl
theorem kc_45_78 : am_code 45 78 = [.goto (115)] := by unfold am_code; rw [kd_at_45]; rfl
theorem kc_45_81 : am_code 45 81 = [.aload_n 0, .aload_n 0, .iload_n 3, .invokevirtual 116, .invokevirtual 134, .lconst 0, .lcmp, .ifCond .lt (34)] := by unfold am_code; rw [kd_at_45]; rfl
theorem kc_45_95 : am_code 45 95 = [.iload 4, .bipush (20), .if_icmp .ge (27)] := by unfold am_code; rw [kd_at_45]; rfl
theorem kc_45_102 : am_code 45 102 = [.aload_n 0, .getfield 55, .iload 5, .iconst (1), .iadd, .baload, .ifCond .ne (15)] := by unfold am_code; rw [kd_at_45]; rfl
theorem kc_45_114 : am_code 45 114 = [.aload_n 0, .getfield 55, .iload 5, .iconst (1), .iadd, .iconst (1), .bastore, .iconst (1), .istore_n 2] := by unfold am_code; rw [kd_at_45]; rfl
theorem kc_45_126 : am_code 45 126 = [.iconst (1), .istore 6] := by unfold am_code; rw [kd_at_45]; rfl
theorem kc_45_129 : am_code 45 129 = [.iload 6, .aload_n 0, .getfield 88, .if_icmp .gt (58)] := by unfold am_code; rw [kd_at_45]; rfl
theorem kc_45_138 : am_code 45 138 = [.bipush (21), .iload 6, .imul, .iload 4, .iadd, .aload_n 0, .iload 6, .invokevirtual 124, .isub, .istore 7, .aload_n 0, .iload_n 3, .iload 4, .iload 6, .invokevirtual 141, .ifCond .eq (23)] := by unfold am_code; rw [kd_at_45]; rfl
theorem kc_45_167 : am_code 45 167 = [.aload_n 0, .getfield 55, .iload 7, .baload, .ifCond .ne (13)] := by unfold am_code; rw [kd_at_45]; rfl
theorem kc_45_177 : am_code 45 177 = [.aload_n 0, .getfield 55, .iload 7, .iconst (1), .bastore, .iconst (1), .istore_n 2] := by unfold am_code; rw [kd_at_45]; rfl
theorem kc_45_187 : am_code 45 187 = [.iinc 6 (1), .goto (-61)] := by unfold am_code; rw [kd_at_45]; rfl
theorem kc_45_193 : am_code 45 193 = [.iinc 4 (1), .goto (-144)] := by unfold am_code; rw [kd_at_45]; rfl
theorem kc_45_199 : am_code 45 199 = [.iinc 3 (1), .goto (-161)] := by unfold am_code; rw [kd_at_45]; rfl
theorem kc_45_205 : am_code 45 205 = [.goto (-172)] := by unfold am_code; rw [kd_at_45]; rfl
theorem kc_45_208 : am_code 45 208 = [.iconst (1), .istore_n 3] := by unfold am_code; rw [kd_at_45]; rfl
theorem kc_45_210 : am_code 45 210 = [.iload_n 3, .aload_n 0, .getfield 85, .if_icmp .gt (116)] := by unfold am_code; rw [kd_at_45]; rfl
theorem kc_45_218 : am_code 45 218 = [.iconst (0), .istore 4, .iconst (0), .istore 5] := by unfold am_code; rw [kd_at_45]; rfl
theorem kc_45_224 : am_code 45 224 = [.iload 5, .bipush (21), .aload_n 0, .getfield 88, .imul, .bipush (21), .iadd, .if_icmp .ge (44)] := by unfold am_code; rw [kd_at_45]; rfl
theorem kc_45_239 : am_code 45 239 = [.iload 4, .ifCond .ne (26)] := by unfold am_code; rw [kd_at_45]; rfl
theorem kc_45_244 : am_code 45 244 = [.aload_n 0, .getfield 55, .iload 5, .baload, .ifCond .eq (20)] := by unfold am_code; rw [kd_at_45]; rfl
theorem kc_45_254 : am_code 45 254 = [.aload_n 0, .iload 5, .bipush (21), .idiv, .invokevirtual 116, .iload_n 3, .if_icmp .ne (7)] := by unfold am_code; rw [kd_at_45]; rfl
theorem kc_45_267 : am_code 45 267 = [.iconst (1), .goto (4)] := by unfold am_code; rw [kd_at_45]; rfl
theorem kc_45_271 : am_code 45 271 = [.iconst (0)] := by unfold am_code; rw [kd_at_45]; rfl
theorem kc_45_272 : am_code 45 272 = [.istore 4, .iinc 5 (1), .goto (-53)] := by unfold am_code; rw [kd_at_45]; rfl
theorem kc_45_280 : am_code 45 280 = [.iload 4, .ifCond .eq (43)] := by unfold am_code; rw [kd_at_45]; rfl
theorem kc_45_285 : am_code 45 285 = [.aload_n 0, .getfield 16, .iload_n 3, .laload, .lconst 0, .lcmp, .ifCond .le (32)] := by unfold am_code; rw [kd_at_45]; rfl
theorem kc_45_296 : am_code 45 296 = [.aload_n 0, .getfield 154, .ifCond .eq (20)] := by unfold am_code; rw [kd_at_45]; rfl
theorem kc_45_303 : am_code 45 303 = [.aload_n 0, .iload_n 3, .invokevirtual 170, .aload_n 0, .aload_n 0, .getfield 154, .invokevirtual 170, .lcmp, .ifCond .ge (8)] := by unfold am_code; rw [kd_at_45]; rfl
theorem kc_45_320 : am_code 45 320 = [.aload_n 0, .iload_n 3, .putfield 154] := by unfold am_code; rw [kd_at_45]; rfl
theorem kc_45_325 : am_code 45 325 = [.iinc 3 (1), .goto (-118)] := by unfold am_code; rw [kd_at_45]; rfl
theorem kc_45_331 : am_code 45 331 = [.return_] := by unfold am_code; rw [kd_at_45]; rfl
theorem kd_at_46 : am_kd 46 = kd_46 := rfl
theorem kc_46_0 : am_code 46 0 = [.aload_n 0, .aload_n 0, .getfield 151, .putfield 173, .iconst (0), .istore_n 1] := by unfold am_code; rw [kd_at_46]; rfl
theorem kc_46_10 : am_code 46 10 = [.iload_n 1, .aload_n 0, .getfield 151, .if_icmp .ge (21)] := by unfold am_code; rw [kd_at_46]; rfl
theorem kc_46_18 : am_code 46 18 = [.aload_n 0, .getfield 61, .iload_n 1, .aload_n 0, .getfield 73, .iload_n 1, .iaload, .iastore, .iinc 1 (1), .goto (-23)] := by unfold am_code; rw [kd_at_46]; rfl
theorem kc_46_36 : am_code 46 36 = [.iconst (0), .istore_n 1] := by unfold am_code; rw [kd_at_46]; rfl
theorem kc_46_38 : am_code 46 38 = [.iload_n 1, .sipush (2600), .if_icmp .ge (16)] := by unfold am_code; rw [kd_at_46]; rfl
theorem kc_46_45 : am_code 46 45 = [.aload_n 0, .getfield 70, .iload_n 1, .iconst (0), .bastore, .iinc 1 (1), .goto (-17)] := by unfold am_code; rw [kd_at_46]; rfl
theorem kc_46_58 : am_code 46 58 = [.aload_n 0, .aload_n 0, .getfield 161, .putfield 66, .return_] := by unfold am_code; rw [kd_at_46]; rfl
theorem kd_at_47 : am_kd 47 = kd_47 := rfl
theorem kc_47_0 : am_code 47 0 = [.aload_n 0, .iconst (0), .putfield 82, .aload_n 0, .iload_n 1, .invokevirtual 95, .ifCond .ne (41)] := by unfold am_code; rw [kd_at_47]; rfl
theorem kc_47_13 : am_code 47 13 = [.aload_n 0, .iload_n 2, .invokevirtual 95, .ifCond .ne (33)] := by unfold am_code; rw [kd_at_47]; rfl
theorem kc_47_21 : am_code 47 21 = [.iload_n 3, .ifCond .lt (29)] := by unfold am_code; rw [kd_at_47]; rfl
theorem kc_47_25 : am_code 47 25 = [.iload_n 3, .iconst (2), .if_icmp .gt (24)] := by unfold am_code; rw [kd_at_47]; rfl
theorem kc_47_30 : am_code 47 30 = [.iload_n 3, .iconst (2), .if_icmp .ne (22)] := by unfold am_code; rw [kd_at_47]; rfl
theorem kc_47_35 : am_code 47 35 = [.lload 4, .lconst 0, .lcmp, .ifCond .lt (12)] := by unfold am_code; rw [kd_at_47]; rfl
theorem kc_47_42 : am_code 47 42 = [.lload 4, .ldc2_w 176, .lcmp, .ifCond .le (6)] := by unfold am_code; rw [kd_at_47]; rfl
theorem kc_47_51 : am_code 47 51 = [.bipush (-2), .ireturn] := by unfold am_code; rw [kd_at_47]; rfl
theorem kc_47_54 : am_code 47 54 = [.aload_n 0, .iload_n 1, .putfield 113, .aload_n 0, .iload_n 2, .putfield 131, .aload_n 0, .iload_n 3, .putfield 45, .aload_n 0, .iload_n 3, .iconst (2), .if_icmp .ne (9)] := by unfold am_code; rw [kd_at_47]; rfl
theorem kc_47_75 : am_code 47 75 = [.lload 4, .l2i, .goto (4)] := by unfold am_code; rw [kd_at_47]; rfl
theorem kc_47_81 : am_code 47 81 = [.iconst (0)] := by unfold am_code; rw [kd_at_47]; rfl
theorem kc_47_82 : am_code 47 82 = [.putfield 145, .aload_n 0, .invokevirtual 178, .istore 6, .aload_n 0, .iload 6, .ifCond .eq (10)] := by unfold am_code; rw [kd_at_47]; rfl
theorem kc_47_97 : am_code 47 97 = [.aload_n 0, .getfield 151, .goto (4)] := by unfold am_code; rw [kd_at_47]; rfl
theorem kc_47_104 : am_code 47 104 = [.iconst (0)] := by unfold am_code; rw [kd_at_47]; rfl
theorem kc_47_105 : am_code 47 105 = [.putfield 151, .aload_n 0, .iload 6, .ifCond .eq (10)] := by unfold am_code; rw [kd_at_47]; rfl
theorem kc_47_114 : am_code 47 114 = [.aload_n 0, .getfield 161, .goto (6)] := by unfold am_code; rw [kd_at_47]; rfl
theorem kc_47_121 : am_code 47 121 = [.ldc2_w 64] := by unfold am_code; rw [kd_at_47]; rfl
theorem kc_47_124 : am_code 47 124 = [.putfield 161, .aload_n 0, .invokevirtual 182, .iload 6, .ifCond .eq (10)] := by unfold am_code; rw [kd_at_47]; rfl
theorem kc_47_136 : am_code 47 136 = [.aload_n 0, .getfield 173, .goto (4)] := by unfold am_code; rw [kd_at_47]; rfl
theorem kc_47_143 : am_code 47 143 = [.iconst (-1)] := by unfold am_code; rw [kd_at_47]; rfl
theorem kc_47_144 : am_code 47 144 = [.ireturn] := by unfold am_code; rw [kd_at_47]; rfl
theorem kd_at_48 : am_kd 48 = kd_48 := rfl
theorem kc_48_0 : am_code 48 0 = [.iconst (0), .istore_n 1] := by unfold am_code; rw [kd_at_48]; rfl
theorem kc_48_2 : am_code 48 2 = [.iload_n 1, .bipush (21), .if_icmp .ge (30)] := by unfold am_code; rw [kd_at_48]; rfl
theorem kc_48_8 : am_code 48 8 = [.aload_n 0, .getfield 76, .iload_n 1, .iload_n 1, .aload_n 0, .getfield 145, .if_icmp .ne (7)] := by unfold am_code; rw [kd_at_48]; rfl
theorem kc_48_21 : am_code 48 21 = [.lconst 0, .goto (6)] := by unfold am_code; rw [kd_at_48]; rfl
theorem kc_48_25 : am_code 48 25 = [.ldc2_w 64] := by unfold am_code; rw [kd_at_48]; rfl
theorem kc_48_28 : am_code 48 28 = [.lastore, .iinc 1 (1), .goto (-30)] := by unfold am_code; rw [kd_at_48]; rfl
theorem kc_48_35 : am_code 48 35 = [.iconst (0), .istore_n 1] := by unfold am_code; rw [kd_at_48]; rfl
theorem kc_48_37 : am_code 48 37 = [.iload_n 1, .aload_n 0, .getfield 173, .if_icmp .ge (245)] := by unfold am_code; rw [kd_at_48]; rfl
theorem kc_48_45 : am_code 48 45 = [.aload_n 0, .getfield 61, .iload_n 1, .iaload, .istore_n 2, .iload_n 1, .ifCond .ne (7)] := by unfold am_code; rw [kd_at_48]; rfl
theorem kc_48_56 : am_code 48 56 = [.iconst (0), .goto (11)] := by unfold am_code; rw [kd_at_48]; rfl
theorem kc_48_60 : am_code 48 60 = [.aload_n 0, .getfield 61, .iload_n 1, .iconst (1), .isub, .iaload] := by unfold am_code; rw [kd_at_48]; rfl
theorem kc_48_68 : am_code 48 68 = [.istore_n 3, .aload_n 0, .iload_n 2, .invokevirtual 120, .lconst 0, .lcmp, .ifCond .lt (21)] := by unfold am_code; rw [kd_at_48]; rfl
theorem kc_48_79 : am_code 48 79 = [.iload_n 3, .ifCond .le (21)] := by unfold am_code; rw [kd_at_48]; rfl
theorem kc_48_83 : am_code 48 83 = [.aload_n 0, .getfield 41, .bipush (121), .iload_n 3, .imul, .iload_n 2, .iadd, .baload, .ifCond .eq (7)] := by unfold am_code; rw [kd_at_48]; rfl
theorem kc_48_97 : am_code 48 97 = [.ldc2_w 64, .lreturn] := by unfold am_code; rw [kd_at_48]; rfl
theorem kc_48_101 : am_code 48 101 = [.aload_n 0, .aload_n 0, .getfield 19, .iload_n 2, .iaload, .invokevirtual 134, .lstore 4, .iconst (1), .istore 6] := by unfold am_code; rw [kd_at_48]; rfl
theorem kc_48_116 : am_code 48 116 = [.iload 6, .aload_n 0, .invokevirtual 127, .if_icmp .gt (84)] := by unfold am_code; rw [kd_at_48]; rfl
theorem kc_48_125 : am_code 48 125 = [.lload 4, .lconst 0, .lcmp, .ifCond .lt (77)] := by unfold am_code; rw [kd_at_48]; rfl
theorem kc_48_132 : am_code 48 132 = [.aload_n 0, .getfield 76, .iload 6, .iconst (1), .isub, .laload, .lconst 0, .lcmp, .ifCond .lt (57)] := by unfold am_code; rw [kd_at_48]; rfl
theorem kc_48_146 : am_code 48 146 = [.aload_n 0, .getfield 76, .iload 6, .laload, .lconst 0, .lcmp, .ifCond .lt (26)] := by unfold am_code; rw [kd_at_48]; rfl
theorem kc_48_158 : am_code 48 158 = [.aload_n 0, .getfield 76, .iload 6, .laload, .aload_n 0, .getfield 76, .iload 6, .iconst (1), .isub, .laload, .lload 4, .ladd, .lcmp, .ifCond .le (22)] := by unfold am_code; rw [kd_at_48]; rfl
theorem kc_48_181 : am_code 48 181 = [.aload_n 0, .getfield 76, .iload 6, .aload_n 0, .getfield 76, .iload 6, .iconst (1), .isub, .laload, .lload 4, .ladd, .lastore] := by unfold am_code; rw [kd_at_48]; rfl
theorem kc_48_200 : am_code 48 200 = [.iinc 6 (1), .goto (-87)] := by unfold am_code; rw [kd_at_48]; rfl
theorem kc_48_206 : am_code 48 206 = [.iconst (0), .istore 6] := by unfold am_code; rw [kd_at_48]; rfl
theorem kc_48_209 : am_code 48 209 = [.iload 6, .aload_n 0, .invokevirtual 127, .if_icmp .gt (66)] := by unfold am_code; rw [kd_at_48]; rfl
theorem kc_48_218 : am_code 48 218 = [.iload 6, .aload_n 0, .iload_n 2, .invokevirtual 124, .iadd, .istore 7, .aload_n 0, .getfield 76, .iload 6, .iload 7, .aload_n 0, .invokevirtual 127, .if_icmp .gt (31)] := by unfold am_code; rw [kd_at_48]; rfl
theorem kc_48_243 : am_code 48 243 = [.aload_n 0, .getfield 76, .iload 7, .laload, .lconst 0, .lcmp, .ifCond .lt (19)] := by unfold am_code; rw [kd_at_48]; rfl
theorem kc_48_255 : am_code 48 255 = [.aload_n 0, .getfield 76, .iload 7, .laload, .aload_n 0, .iload_n 2, .invokevirtual 120, .ladd, .goto (6)] := by unfold am_code; rw [kd_at_48]; rfl
theorem kc_48_271 : am_code 48 271 = [.ldc2_w 64] := by unfold am_code; rw [kd_at_48]; rfl
theorem kc_48_274 : am_code 48 274 = [.lastore, .iinc 6 (1), .goto (-69)] := by unfold am_code; rw [kd_at_48]; rfl
theorem kc_48_281 : am_code 48 281 = [.iinc 1 (1), .goto (-247)] := by unfold am_code; rw [kd_at_48]; rfl
theorem kc_48_287 : am_code 48 287 = [.ldc2_w 64, .lstore_n 1, .iconst (0), .istore_n 3] := by unfold am_code; rw [kd_at_48]; rfl
theorem kc_48_293 : am_code 48 293 = [.iload_n 3, .aload_n 0, .invokevirtual 127, .if_icmp .gt (48)] := by unfold am_code; rw [kd_at_48]; rfl
theorem kc_48_301 : am_code 48 301 = [.aload_n 0, .getfield 76, .iload_n 3, .laload, .lconst 0, .lcmp, .ifCond .lt (29)] := by unfold am_code; rw [kd_at_48]; rfl
theorem kc_48_312 : am_code 48 312 = [.lload_n 1, .lconst 0, .lcmp, .ifCond .lt (14)] := by unfold am_code; rw [kd_at_48]; rfl
theorem kc_48_318 : am_code 48 318 = [.aload_n 0, .getfield 76, .iload_n 3, .laload, .lload_n 1, .lcmp, .ifCond .ge (12)] := by unfold am_code; rw [kd_at_48]; rfl
theorem kc_48_329 : am_code 48 329 = [.aload_n 0, .getfield 76, .iload_n 3, .laload, .goto (4)] := by unfold am_code; rw [kd_at_48]; rfl
theorem kc_48_338 : am_code 48 338 = [.lload_n 1] := by unfold am_code; rw [kd_at_48]; rfl
theorem kc_48_339 : am_code 48 339 = [.lstore_n 1, .iinc 3 (1), .goto (-50)] := by unfold am_code; rw [kd_at_48]; rfl
theorem kc_48_346 : am_code 48 346 = [.lload_n 1, .lreturn] := by unfold am_code; rw [kd_at_48]; rfl
theorem kd_at_49 : am_kd 49 = kd_49 := rfl
theorem kc_49_0 : am_code 49 0 = [.aload_n 0, .iconst (0), .putfield 82, .lload_n 1, .lconst 0, .lcmp, .ifCond .ge (6)] := by unfold am_code; rw [kd_at_49]; rfl
theorem kc_49_11 : am_code 49 11 = [.bipush (-2), .ireturn] := by unfold am_code; rw [kd_at_49]; rfl
theorem kc_49_14 : am_code 49 14 = [.aload_n 0, .getfield 45, .ifCond .ge (6)] := by unfold am_code; rw [kd_at_49]; rfl
theorem kc_49_21 : am_code 49 21 = [.bipush (-3), .ireturn] := by unfold am_code; rw [kd_at_49]; rfl
theorem kc_49_24 : am_code 49 24 = [.aload_n 0, .invokevirtual 178, .ifCond .ne (5)] := by unfold am_code; rw [kd_at_49]; rfl
theorem kc_49_31 : am_code 49 31 = [.iconst (0), .ireturn] := by unfold am_code; rw [kd_at_49]; rfl
theorem kc_49_33 : am_code 49 33 = [.aload_n 0, .getfield 66, .lconst 0, .lcmp, .ifCond .ge (9)] := by unfold am_code; rw [kd_at_49]; rfl
theorem kc_49_42 : am_code 49 42 = [.ldc2_w 64, .goto (7)] := by unfold am_code; rw [kd_at_49]; rfl
theorem kc_49_48 : am_code 49 48 = [.aload_n 0, .invokevirtual 185] := by unfold am_code; rw [kd_at_49]; rfl
theorem kc_49_52 : am_code 49 52 = [.lstore_n 3, .aload_n 0, .getfield 173, .aload_n 0, .getfield 151, .if_icmp .ne (7)] := by unfold am_code; rw [kd_at_49]; rfl
theorem kc_49_64 : am_code 49 64 = [.iconst (1), .goto (4)] := by unfold am_code; rw [kd_at_49]; rfl
theorem kc_49_68 : am_code 49 68 = [.iconst (0)] := by unfold am_code; rw [kd_at_49]; rfl
theorem kc_49_69 : am_code 49 69 = [.istore 5, .iconst (0), .istore 6] := by unfold am_code; rw [kd_at_49]; rfl
theorem kc_49_74 : am_code 49 74 = [.iload 6, .aload_n 0, .getfield 173, .if_icmp .ge (38)] := by unfold am_code; rw [kd_at_49]; rfl
theorem kc_49_83 : am_code 49 83 = [.iload 5, .ifCond .eq (33)] := by unfold am_code; rw [kd_at_49]; rfl
theorem kc_49_88 : am_code 49 88 = [.aload_n 0, .getfield 61, .iload 6, .iaload, .aload_n 0, .getfield 73, .iload 6, .iaload, .if_icmp .ne (7)] := by unfold am_code; rw [kd_at_49]; rfl
theorem kc_49_105 : am_code 49 105 = [.iconst (1), .goto (4)] := by unfold am_code; rw [kd_at_49]; rfl
theorem kc_49_109 : am_code 49 109 = [.iconst (0)] := by unfold am_code; rw [kd_at_49]; rfl
theorem kc_49_110 : am_code 49 110 = [.istore 5, .iinc 6 (1), .goto (-41)] := by unfold am_code; rw [kd_at_49]; rfl
theorem kc_49_118 : am_code 49 118 = [.lload_n 3, .lconst 0, .lcmp, .ifCond .lt (21)] := by unfold am_code; rw [kd_at_49]; rfl
theorem kc_49_124 : am_code 49 124 = [.iload 5, .ifCond .ne (14)] := by unfold am_code; rw [kd_at_49]; rfl
theorem kc_49_129 : am_code 49 129 = [.lload_n 3, .aload_n 0, .getfield 161, .lsub, .lload_n 1, .lcmp, .ifCond .ge (5)] := by unfold am_code; rw [kd_at_49]; rfl
theorem kc_49_140 : am_code 49 140 = [.iconst (0), .ireturn] := by unfold am_code; rw [kd_at_49]; rfl
theorem kc_49_142 : am_code 49 142 = [.aload_n 0, .invokevirtual 182, .iconst (1), .ireturn] := by unfold am_code; rw [kd_at_49]; rfl
theorem kd_at_50 : am_kd 50 = kd_50 := rfl
theorem kc_50_0 : am_code 50 0 = [.aload_n 0, .iconst (0), .putfield 82, .iload_n 1, .ifCond .lt (11)] := by unfold am_code; rw [kd_at_50]; rfl
theorem kc_50_9 : am_code 50 9 = [.iload_n 1, .aload_n 0, .getfield 173, .if_icmp .lt (7)] := by unfold am_code; rw [kd_at_50]; rfl
theorem kc_50_17 : am_code 50 17 = [.iconst (0), .goto (9)] := by unfold am_code; rw [kd_at_50]; rfl
theorem kc_50_21 : am_code 50 21 = [.aload_n 0, .getfield 61, .iload_n 1, .iaload] := by unfold am_code; rw [kd_at_50]; rfl
theorem kc_50_27 : am_code 50 27 = [.ireturn] := by unfold am_code; rw [kd_at_50]; rfl
theorem kd_at_51 : am_kd 51 = kd_51 := rfl
theorem kc_51_0 : am_code 51 0 = [.aload_n 0, .iconst (0), .putfield 82, .aload_n 0, .getfield 66, .lreturn] := by unfold am_code; rw [kd_at_51]; rfl
theorem kd_at_52 : am_kd 52 = kd_52 := rfl
theorem kc_52_0 : am_code 52 0 = [.aload_n 0, .iconst (0), .putfield 82, .aload_n 0, .getfield 154, .ireturn] := by unfold am_code; rw [kd_at_52]; rfl
theorem kd_at_53 : am_kd 53 = kd_53 := rfl
theorem kc_53_0 : am_code 53 0 = [.aload_n 0, .iconst (0), .putfield 82, .iload_n 1, .ifCond .lt (13)] := by unfold am_code; rw [kd_at_53]; rfl
theorem kc_53_9 : am_code 53 9 = [.iload_n 1, .aload_n 0, .getfield 173, .iconst (2), .isub, .if_icmp .le (5)] := by unfold am_code; rw [kd_at_53]; rfl
theorem kc_53_19 : am_code 53 19 = [.iconst (-1), .ireturn] := by unfold am_code; rw [kd_at_53]; rfl
theorem kc_53_21 : am_code 53 21 = [.iload_n 2, .ifCond .lt (8)] := by unfold am_code; rw [kd_at_53]; rfl
theorem kc_53_25 : am_code 53 25 = [.iload_n 2, .iconst (2), .if_icmp .le (6)] := by unfold am_code; rw [kd_at_53]; rfl
theorem kc_53_30 : am_code 53 30 = [.bipush (-2), .ireturn] := by unfold am_code; rw [kd_at_53]; rfl
theorem kc_53_33 : am_code 53 33 = [.aload_n 0, .getfield 61, .iload_n 1, .iaload, .istore_n 3, .aload_n 0, .getfield 61, .iload_n 1, .iconst (1), .iadd, .iaload, .istore 4, .iload_n 2, .iconst (1), .if_icmp .ne (6)] := by unfold am_code; rw [kd_at_53]; rfl
theorem kc_53_55 : am_code 53 55 = [.iload 4, .ireturn] := by unfold am_code; rw [kd_at_53]; rfl
theorem kc_53_58 : am_code 53 58 = [.iload_n 2, .iconst (2), .if_icmp .ne (29)] := by unfold am_code; rw [kd_at_53]; rfl
theorem kc_53_63 : am_code 53 63 = [.aload_n 0, .getfield 70, .iload_n 1, .baload, .ifCond .eq (7)] := by unfold am_code; rw [kd_at_53]; rfl
theorem kc_53_72 : am_code 53 72 = [.iconst (0), .goto (4)] := by unfold am_code; rw [kd_at_53]; rfl
theorem kc_53_76 : am_code 53 76 = [.iconst (1)] := by unfold am_code; rw [kd_at_53]; rfl
theorem kc_53_77 : am_code 53 77 = [.istore 5, .aload_n 0, .getfield 70, .iload_n 1, .iconst (1), .bastore, .iload 5, .ireturn] := by unfold am_code; rw [kd_at_53]; rfl
theorem kc_53_89 : am_code 53 89 = [.aload_n 0, .getfield 7, .aload_n 0, .getfield 23, .iload_n 3, .iaload, .laload, .aload_n 0, .getfield 7, .aload_n 0, .getfield 19, .iload_n 3, .iaload, .laload, .lsub, .lstore 5, .aload_n 0, .getfield 13, .aload_n 0, .getfield 23, .iload_n 3, .iaload, .laload, .aload_n 0, .getfield 13, .aload_n 0, .getfield 19, .iload_n 3, .iaload, .laload, .lsub, .lstore 7, .aload_n 0, .getfield 7, .aload_n 0, .getfield 23, .iload 4, .iaload, .laload, .aload_n 0, .getfield 7, .aload_n 0, .getfield 19, .iload 4, .iaload, .laload, .lsub, .lstore 9, .aload_n 0, .getfield 13, .aload_n 0, .getfield 23, .iload 4, .iaload, .laload, .aload_n 0, .getfield 13, .aload_n 0, .getfield 19, .iload 4, .iaload, .laload, .lsub, .lstore 11, .lload 5, .lload 11, .lmul, .lload 7, .lload 9, .lmul, .lsub, .lstore 13, .lload 5, .lload 9, .lmul, .lload 7, .lload 11, .lmul, .ladd, .lstore 15, .lload 13, .lconst 0, .lcmp, .ifCond .ge (12)] := by unfold am_code; rw [kd_at_53]; rfl
theorem kc_53_226 : am_code 53 226 = [.ldc2_w 189, .lload 13, .lmul, .goto (9)] := by unfold am_code; rw [kd_at_53]; rfl
theorem kc_53_235 : am_code 53 235 = [.ldc2_w 191, .lload 13, .lmul] := by unfold am_code; rw [kd_at_53]; rfl
theorem kc_53_241 : am_code 53 241 = [.lstore 17, .lload 17, .lload 15, .lcmp, .ifCond .gt (5)] := by unfold am_code; rw [kd_at_53]; rfl
theorem kc_53_251 : am_code 53 251 = [.iconst (0), .ireturn] := by unfold am_code; rw [kd_at_53]; rfl
theorem kc_53_253 : am_code 53 253 = [.lload 17, .lload 15, .ladd, .lconst 0, .lcmp, .ifCond .gt (5)] := by unfold am_code; rw [kd_at_53]; rfl
theorem kc_53_263 : am_code 53 263 = [.iconst (3), .ireturn] := by unfold am_code; rw [kd_at_53]; rfl
theorem kc_53_265 : am_code 53 265 = [.lload 13, .lconst 0, .lcmp, .ifCond .le (7)] := by unfold am_code; rw [kd_at_53]; rfl
theorem kc_53_272 : am_code 53 272 = [.iconst (2), .goto (4)] := by unfold am_code; rw [kd_at_53]; rfl
theorem kc_53_276 : am_code 53 276 = [.iconst (1)] := by unfold am_code; rw [kd_at_53]; rfl
theorem kc_53_277 : am_code 53 277 = [.ireturn] := by unfold am_code; rw [kd_at_53]; rfl
theorem kd_at_54 : am_kd 54 = kd_54 := rfl
theorem kc_54_0 : am_code 54 0 = [.lload_n 0, .lconst 0, .lcmp, .ifCond .ne (11)] := by unfold am_code; rw [kd_at_54]; rfl
theorem kc_54_6 : am_code 54 6 = [.lload_n 2, .lconst 0, .lcmp, .ifCond .ne (5)] := by unfold am_code; rw [kd_at_54]; rfl
theorem kc_54_12 : am_code 54 12 = [.iconst (-1), .ireturn] := by unfold am_code; rw [kd_at_54]; rfl
theorem kc_54_14 : am_code 54 14 = [.lload_n 0, .lconst 0, .lcmp, .ifCond .le (21)] := by unfold am_code; rw [kd_at_54]; rfl
theorem kc_54_20 : am_code 54 20 = [.lload_n 2, .lconst 0, .lcmp, .ifCond .lt (15)] := by unfold am_code; rw [kd_at_54]; rfl
theorem kc_54_26 : am_code 54 26 = [.lload_n 2, .lload_n 0, .lcmp, .ifCond .ge (7)] := by unfold am_code; rw [kd_at_54]; rfl
theorem kc_54_32 : am_code 54 32 = [.iconst (0), .goto (4)] := by unfold am_code; rw [kd_at_54]; rfl
theorem kc_54_36 : am_code 54 36 = [.iconst (1)] := by unfold am_code; rw [kd_at_54]; rfl
theorem kc_54_37 : am_code 54 37 = [.ireturn] := by unfold am_code; rw [kd_at_54]; rfl
theorem kc_54_38 : am_code 54 38 = [.lload_n 0, .lconst 0, .lcmp, .ifCond .gt (22)] := by unfold am_code; rw [kd_at_54]; rfl
theorem kc_54_44 : am_code 54 44 = [.lload_n 2, .lconst 0, .lcmp, .ifCond .le (16)] := by unfold am_code; rw [kd_at_54]; rfl
theorem kc_54_50 : am_code 54 50 = [.lload_n 0, .lneg, .lload_n 2, .lcmp, .ifCond .ge (7)] := by unfold am_code; rw [kd_at_54]; rfl
theorem kc_54_57 : am_code 54 57 = [.iconst (2), .goto (4)] := by unfold am_code; rw [kd_at_54]; rfl
theorem kc_54_61 : am_code 54 61 = [.iconst (3)] := by unfold am_code; rw [kd_at_54]; rfl
theorem kc_54_62 : am_code 54 62 = [.ireturn] := by unfold am_code; rw [kd_at_54]; rfl
theorem kc_54_63 : am_code 54 63 = [.lload_n 0, .lconst 0, .lcmp, .ifCond .ge (17)] := by unfold am_code; rw [kd_at_54]; rfl
theorem kc_54_69 : am_code 54 69 = [.lload_n 2, .lneg, .lload_n 0, .lneg, .lcmp, .ifCond .ge (7)] := by unfold am_code; rw [kd_at_54]; rfl
theorem kc_54_77 : am_code 54 77 = [.iconst (4), .goto (4)] := by unfold am_code; rw [kd_at_54]; rfl
theorem kc_54_81 : am_code 54 81 = [.iconst (5)] := by unfold am_code; rw [kd_at_54]; rfl
theorem kc_54_82 : am_code 54 82 = [.ireturn] := by unfold am_code; rw [kd_at_54]; rfl
theorem kc_54_83 : am_code 54 83 = [.lload_n 0, .lload_n 2, .lneg, .lcmp, .ifCond .ge (8)] := by unfold am_code; rw [kd_at_54]; rfl
theorem kc_54_90 : am_code 54 90 = [.bipush (6), .goto (5)] := by unfold am_code; rw [kd_at_54]; rfl
theorem kc_54_95 : am_code 54 95 = [.bipush (7)] := by unfold am_code; rw [kd_at_54]; rfl
theorem kc_54_97 : am_code 54 97 = [.ireturn] := by unfold am_code; rw [kd_at_54]; rfl
theorem kd_at_55 : am_kd 55 = kd_55 := rfl
theorem kc_55_0 : am_code 55 0 = [.aload_n 0, .getfield 7, .aload_n 0, .getfield 23, .iload_n 1, .iaload, .laload, .aload_n 0, .getfield 7, .aload_n 0, .getfield 19, .iload_n 1, .iaload, .laload, .lsub, .lstore 6, .aload_n 0, .getfield 13, .aload_n 0, .getfield 23, .iload_n 1, .iaload, .laload, .aload_n 0, .getfield 13, .aload_n 0, .getfield 19, .iload_n 1, .iaload, .laload, .lsub, .lstore 8, .lload_n 2, .aload_n 0, .getfield 7, .aload_n 0, .getfield 19, .iload_n 1, .iaload, .laload, .lsub, .lstore 10, .lload 4, .aload_n 0, .getfield 13, .aload_n 0, .getfield 19, .iload_n 1, .iaload, .laload, .lsub, .lstore 12, .lload_n 2, .aload_n 0, .getfield 7, .aload_n 0, .getfield 23, .iload_n 1, .iaload, .laload, .lsub, .lstore 14, .lload 4, .aload_n 0, .getfield 13, .aload_n 0, .getfield 23, .iload_n 1, .iaload, .laload, .lsub, .lstore 16, .lload 10, .lload 6, .lmul, .lload 12, .lload 8, .lmul, .ladd, .lconst 0, .lcmp, .ifCond .gt (15)] := by unfold am_code; rw [kd_at_55]; rfl
theorem kc_55_128 : am_code 55 128 = [.lload 10, .lload 10, .lmul, .lload 12, .lload 12, .lmul, .ladd, .lreturn] := by unfold am_code; rw [kd_at_55]; rfl
theorem kc_55_140 : am_code 55 140 = [.lload 14, .lload 6, .lmul, .lload 16, .lload 8, .lmul, .ladd, .lconst 0, .lcmp, .ifCond .lt (15)] := by unfold am_code; rw [kd_at_55]; rfl
theorem kc_55_156 : am_code 55 156 = [.lload 14, .lload 14, .lmul, .lload 16, .lload 16, .lmul, .ladd, .lreturn] := by unfold am_code; rw [kd_at_55]; rfl
theorem kc_55_168 : am_code 55 168 = [.lload 10, .lload 8, .lmul, .lload 12, .lload 6, .lmul, .lsub, .lstore 18, .lload 18, .lload 18, .lmul, .lload 6, .lload 6, .lmul, .lload 8, .lload 8, .lmul, .ladd, .ldiv, .lreturn] := by unfold am_code; rw [kd_at_55]; rfl
theorem kd_at_56 : am_kd 56 = kd_56 := rfl
theorem kc_56_0 : am_code 56 0 = [.aload_n 0, .iconst (0), .putfield 82, .lload_n 1, .ldc2_w 193, .lcmp, .ifCond .lt (40)] := by unfold am_code; rw [kd_at_56]; rfl
theorem kc_56_13 : am_code 56 13 = [.lload_n 1, .ldc2_w 103, .lcmp, .ifCond .gt (32)] := by unfold am_code; rw [kd_at_56]; rfl
theorem kc_56_21 : am_code 56 21 = [.lload_n 3, .ldc2_w 193, .lcmp, .ifCond .lt (24)] := by unfold am_code; rw [kd_at_56]; rfl
theorem kc_56_29 : am_code 56 29 = [.lload_n 3, .ldc2_w 103, .lcmp, .ifCond .gt (16)] := by unfold am_code; rw [kd_at_56]; rfl
theorem kc_56_37 : am_code 56 37 = [.iload 5, .iconst (-1), .if_icmp .lt (10)] := by unfold am_code; rw [kd_at_56]; rfl
theorem kc_56_43 : am_code 56 43 = [.iload 5, .bipush (7), .if_icmp .le (6)] := by unfold am_code; rw [kd_at_56]; rfl
theorem kc_56_50 : am_code 56 50 = [.bipush (-2), .ireturn] := by unfold am_code; rw [kd_at_56]; rfl
theorem kc_56_53 : am_code 56 53 = [.iconst (0), .istore 6, .lconst 0, .lstore 7, .iconst (1), .istore 9] := by unfold am_code; rw [kd_at_56]; rfl
theorem kc_56_62 : am_code 56 62 = [.iload 9, .aload_n 0, .getfield 88, .if_icmp .gt (167)] := by unfold am_code; rw [kd_at_56]; rfl
theorem kc_56_71 : am_code 56 71 = [.aload_n 0, .getfield 7, .aload_n 0, .getfield 23, .iload 9, .iaload, .laload, .aload_n 0, .getfield 7, .aload_n 0, .getfield 19, .iload 9, .iaload, .laload, .lsub, .aload_n 0, .getfield 13, .aload_n 0, .getfield 23, .iload 9, .iaload, .laload, .aload_n 0, .getfield 13, .aload_n 0, .getfield 19, .iload 9, .iaload, .laload, .lsub, .invokestatic 195, .istore 10, .iload 10, .iload 5, .if_icmp .ge (11)] := by unfold am_code; rw [kd_at_56]; rfl
theorem kc_56_133 : am_code 56 133 = [.iload 5, .iload 10, .isub, .goto (8)] := by unfold am_code; rw [kd_at_56]; rfl
theorem kc_56_141 : am_code 56 141 = [.iload 10, .iload 5, .isub] := by unfold am_code; rw [kd_at_56]; rfl
theorem kc_56_146 : am_code 56 146 = [.istore 11, .iload 5, .ifCond .lt (21)] := by unfold am_code; rw [kd_at_56]; rfl
theorem kc_56_153 : am_code 56 153 = [.iload 10, .ifCond .lt (20)] := by unfold am_code; rw [kd_at_56]; rfl
theorem kc_56_158 : am_code 56 158 = [.iload 11, .iconst (2), .if_icmp .lt (10)] := by unfold am_code; rw [kd_at_56]; rfl
theorem kc_56_164 : am_code 56 164 = [.iload 11, .bipush (7), .if_icmp .ne (7)] := by unfold am_code; rw [kd_at_56]; rfl
theorem kc_56_171 : am_code 56 171 = [.iconst (1), .goto (4)] := by unfold am_code; rw [kd_at_56]; rfl
theorem kc_56_175 : am_code 56 175 = [.iconst (0)] := by unfold am_code; rw [kd_at_56]; rfl
theorem kc_56_176 : am_code 56 176 = [.istore 12, .iload 12, .ifCond .eq (14)] := by unfold am_code; rw [kd_at_56]; rfl
theorem kc_56_183 : am_code 56 183 = [.aload_n 0, .iload 9, .lload_n 1, .lload_n 3, .invokevirtual 199, .goto (6)] := by unfold am_code; rw [kd_at_56]; rfl
theorem kc_56_194 : am_code 56 194 = [.ldc2_w 203] := by unfold am_code; rw [kd_at_56]; rfl
theorem kc_56_197 : am_code 56 197 = [.lstore 13, .lload 13, .ldc2_w 205, .lcmp, .ifCond .gt (24)] := by unfold am_code; rw [kd_at_56]; rfl
theorem kc_56_208 : am_code 56 208 = [.iload 6, .ifCond .eq (11)] := by unfold am_code; rw [kd_at_56]; rfl
theorem kc_56_213 : am_code 56 213 = [.lload 13, .lload 7, .lcmp, .ifCond .ge (11)] := by unfold am_code; rw [kd_at_56]; rfl
theorem kc_56_221 : am_code 56 221 = [.iload 9, .istore 6, .lload 13, .lstore 7] := by unfold am_code; rw [kd_at_56]; rfl
theorem kc_56_229 : am_code 56 229 = [.iinc 9 (1), .goto (-170)] := by unfold am_code; rw [kd_at_56]; rfl
theorem kc_56_235 : am_code 56 235 = [.iload 6, .ireturn] := by unfold am_code; rw [kd_at_56]; rfl
theorem kd_at_57 : am_kd 57 = kd_57 := rfl
theorem kc_57_0 : am_code 57 0 = [.bipush (97), .iload_n 1, .ifCond .ne (11)] := by unfold am_code; rw [kd_at_57]; rfl
theorem kc_57_6 : am_code 57 6 = [.iload_n 0, .sipush (676), .idiv, .goto (22)] := by unfold am_code; rw [kd_at_57]; rfl
theorem kc_57_14 : am_code 57 14 = [.iload_n 1, .iconst (1), .if_icmp .ne (13)] := by unfold am_code; rw [kd_at_57]; rfl
theorem kc_57_19 : am_code 57 19 = [.iload_n 0, .bipush (26), .idiv, .bipush (26), .irem, .goto (7)] := by unfold am_code; rw [kd_at_57]; rfl
theorem kc_57_29 : am_code 57 29 = [.iload_n 0, .bipush (26), .irem] := by unfold am_code; rw [kd_at_57]; rfl
theorem kc_57_33 : am_code 57 33 = [.iadd, .ireturn] := by unfold am_code; rw [kd_at_57]; rfl
theorem kd_at_58 : am_kd 58 = kd_58 := rfl
theorem kc_58_0 : am_code 58 0 = [.aload_n 0, .iconst (0), .putfield 82, .iload_n 1, .ifCond .eq (18)] := by unfold am_code; rw [kd_at_58]; rfl
theorem kc_58_9 : am_code 58 9 = [.iload_n 1, .bipush (97), .if_icmp .lt (9)] := by unfold am_code; rw [kd_at_58]; rfl
theorem kc_58_15 : am_code 58 15 = [.iload_n 1, .bipush (122), .if_icmp .le (6)] := by unfold am_code; rw [kd_at_58]; rfl
theorem kc_58_21 : am_code 58 21 = [.bipush (-2), .ireturn] := by unfold am_code; rw [kd_at_58]; rfl
theorem kc_58_24 : am_code 58 24 = [.iload_n 1, .ifCond .eq (14)] := by unfold am_code; rw [kd_at_58]; rfl
theorem kc_58_28 : am_code 58 28 = [.aload_n 0, .getfield 207, .iconst (3), .if_icmp .ne (6)] := by unfold am_code; rw [kd_at_58]; rfl
theorem kc_58_36 : am_code 58 36 = [.bipush (-3), .ireturn] := by unfold am_code; rw [kd_at_58]; rfl
theorem kc_58_39 : am_code 58 39 = [.iload_n 1, .ifCond .le (13)] := by unfold am_code; rw [kd_at_58]; rfl
theorem kc_58_43 : am_code 58 43 = [.aload_n 0, .getfield 79, .aload_n 0, .getfield 207, .iload_n 1, .iastore] := by unfold am_code; rw [kd_at_58]; rfl
theorem kc_58_53 : am_code 58 53 = [.aload_n 0, .iload_n 1, .ifCond .ne (7)] := by unfold am_code; rw [kd_at_58]; rfl
theorem kc_58_58 : am_code 58 58 = [.iconst (0), .goto (9)] := by unfold am_code; rw [kd_at_58]; rfl
theorem kc_58_62 : am_code 58 62 = [.aload_n 0, .getfield 207, .iconst (1), .iadd] := by unfold am_code; rw [kd_at_58]; rfl
theorem kc_58_68 : am_code 58 68 = [.putfield 207, .iconst (0), .istore_n 2, .iconst (1), .istore_n 3] := by unfold am_code; rw [kd_at_58]; rfl
theorem kc_58_75 : am_code 58 75 = [.iload_n 3, .aload_n 0, .getfield 85, .if_icmp .gt (71)] := by unfold am_code; rw [kd_at_58]; rfl
theorem kc_58_83 : am_code 58 83 = [.iconst (1), .istore 4, .iconst (0), .istore 5] := by unfold am_code; rw [kd_at_58]; rfl
theorem kc_58_89 : am_code 58 89 = [.iload 5, .aload_n 0, .getfield 207, .if_icmp .ge (37)] := by unfold am_code; rw [kd_at_58]; rfl
theorem kc_58_98 : am_code 58 98 = [.iload 4, .ifCond .eq (23)] := by unfold am_code; rw [kd_at_58]; rfl
theorem kc_58_103 : am_code 58 103 = [.iload_n 3, .iload 5, .invokestatic 210, .aload_n 0, .getfield 79, .iload 5, .iaload, .if_icmp .ne (7)] := by unfold am_code; rw [kd_at_58]; rfl
theorem kc_58_119 : am_code 58 119 = [.iconst (1), .goto (4)] := by unfold am_code; rw [kd_at_58]; rfl
theorem kc_58_123 : am_code 58 123 = [.iconst (0)] := by unfold am_code; rw [kd_at_58]; rfl
theorem kc_58_124 : am_code 58 124 = [.istore 4, .iinc 5 (1), .goto (-40)] := by unfold am_code; rw [kd_at_58]; rfl
theorem kc_58_132 : am_code 58 132 = [.iload 4, .ifCond .eq (9)] := by unfold am_code; rw [kd_at_58]; rfl
theorem kc_58_137 : am_code 58 137 = [.iload_n 2, .iconst (1), .iadd, .goto (4)] := by unfold am_code; rw [kd_at_58]; rfl
theorem kc_58_143 : am_code 58 143 = [.iload_n 2] := by unfold am_code; rw [kd_at_58]; rfl
theorem kc_58_144 : am_code 58 144 = [.istore_n 2, .iinc 3 (1), .goto (-73)] := by unfold am_code; rw [kd_at_58]; rfl
theorem kc_58_151 : am_code 58 151 = [.iload_n 2, .ireturn] := by unfold am_code; rw [kd_at_58]; rfl
theorem kd_at_59 : am_kd 59 = kd_59 := rfl
theorem kc_59_0 : am_code 59 0 = [.aload_n 0, .iconst (0), .putfield 82, .iload_n 2, .ifCond .lt (14)] := by unfold am_code; rw [kd_at_59]; rfl
theorem kc_59_9 : am_code 59 9 = [.iload_n 2, .bipush (7), .if_icmp .gt (8)] := by unfold am_code; rw [kd_at_59]; rfl
theorem kc_59_15 : am_code 59 15 = [.iload_n 1, .iconst (1), .if_icmp .ge (6)] := by unfold am_code; rw [kd_at_59]; rfl
theorem kc_59_20 : am_code 59 20 = [.bipush (-2), .ireturn] := by unfold am_code; rw [kd_at_59]; rfl
theorem kc_59_23 : am_code 59 23 = [.aload_n 0, .getfield 214, .ifCond .eq (13)] := by unfold am_code; rw [kd_at_59]; rfl
theorem kc_59_30 : am_code 59 30 = [.aload_n 0, .getfield 214, .sipush (255), .if_icmp .ne (7)] := by unfold am_code; rw [kd_at_59]; rfl
theorem kc_59_40 : am_code 59 40 = [.iconst (1), .goto (4)] := by unfold am_code; rw [kd_at_59]; rfl
theorem kc_59_44 : am_code 59 44 = [.iconst (0)] := by unfold am_code; rw [kd_at_59]; rfl
theorem kc_59_45 : am_code 59 45 = [.istore_n 3, .iload_n 3, .ifCond .eq (11)] := by unfold am_code; rw [kd_at_59]; rfl
theorem kc_59_50 : am_code 59 50 = [.iload_n 1, .aload_n 0, .getfield 217, .if_icmp .le (27)] := by unfold am_code; rw [kd_at_59]; rfl
theorem kc_59_58 : am_code 59 58 = [.iload_n 3, .ifCond .ne (25)] := by unfold am_code; rw [kd_at_59]; rfl
theorem kc_59_62 : am_code 59 62 = [.iload_n 1, .aload_n 0, .getfield 217, .if_icmp .ne (15)] := by unfold am_code; rw [kd_at_59]; rfl
theorem kc_59_70 : am_code 59 70 = [.aload_n 0, .getfield 214, .iload_n 2, .ishr, .iconst (1), .iand, .iconst (1), .if_icmp .ne (5)] := by unfold am_code; rw [kd_at_59]; rfl
theorem kc_59_82 : am_code 59 82 = [.iconst (0), .ireturn] := by unfold am_code; rw [kd_at_59]; rfl
theorem kc_59_84 : am_code 59 84 = [.aload_n 0, .iload_n 3, .ifCond .eq (9)] := by unfold am_code; rw [kd_at_59]; rfl
theorem kc_59_89 : am_code 59 89 = [.iconst (1), .iload_n 2, .ishl, .goto (11)] := by unfold am_code; rw [kd_at_59]; rfl
theorem kc_59_95 : am_code 59 95 = [.aload_n 0, .getfield 214, .iconst (1), .iload_n 2, .ishl, .ior] := by unfold am_code; rw [kd_at_59]; rfl
theorem kc_59_103 : am_code 59 103 = [.putfield 214, .aload_n 0, .iload_n 1, .putfield 217, .iconst (1), .ireturn] := by unfold am_code; rw [kd_at_59]; rfl
theorem kd_at_60 : am_kd 60 = kd_60 := rfl
theorem kc_60_0 : am_code 60 0 = [.aload_n 0, .invokespecial 3, .aload_n 0, .sipush (2541), .newarray .long, .putfield 11, .aload_n 0, .sipush (2541), .newarray .int, .putfield 15, .aload_n 0, .sipush (2542), .newarray .int, .putfield 19, .aload_n 0, .iconst (0), .putfield 22, .return_] := by unfold am_code; rw [kd_at_60]; rfl
theorem kd_at_61 : am_kd 61 = kd_61 := rfl
theorem kc_61_0 : am_code 61 0 = [.aload_n 0, .iconst (0), .putfield 22, .iconst (0), .istore_n 2] := by unfold am_code; rw [kd_at_61]; rfl
theorem kc_61_7 : am_code 61 7 = [.iload_n 2, .iload_n 1, .if_icmp .ge (32)] := by unfold am_code; rw [kd_at_61]; rfl
theorem kc_61_12 : am_code 61 12 = [.iload_n 2, .sipush (2541), .if_icmp .ge (25)] := by unfold am_code; rw [kd_at_61]; rfl
theorem kc_61_19 : am_code 61 19 = [.aload_n 0, .getfield 11, .iload_n 2, .ldc2_w 26, .lastore, .aload_n 0, .getfield 15, .iload_n 2, .iconst (0), .iastore, .iinc 2 (1), .goto (-31)] := by unfold am_code; rw [kd_at_61]; rfl
theorem kc_61_41 : am_code 61 41 = [.return_] := by unfold am_code; rw [kd_at_61]; rfl
theorem kd_at_62 : am_kd 62 = kd_62 := rfl
theorem kc_62_0 : am_code 62 0 = [.aload_n 0, .getfield 11, .iload_n 1, .laload, .lreturn] := by unfold am_code; rw [kd_at_62]; rfl
theorem kd_at_63 : am_kd 63 = kd_63 := rfl
theorem kc_63_0 : am_code 63 0 = [.lload_n 2, .aload_n 0, .getfield 11, .iload_n 1, .laload, .lcmp, .ifCond .lt (4)] := by unfold am_code; rw [kd_at_63]; rfl
theorem kc_63_11 : am_code 63 11 = [.return_] := by unfold am_code; rw [kd_at_63]; rfl
theorem kc_63_12 : am_code 63 12 = [.aload_n 0, .getfield 11, .iload_n 1, .lload_n 2, .lastore, .aload_n 0, .getfield 15, .iload_n 1, .iaload, .ifCond .ne (23)] := by unfold am_code; rw [kd_at_63]; rfl
theorem kc_63_28 : am_code 63 28 = [.aload_n 0, .dup, .getfield 22, .iconst (1), .iadd, .putfield 22, .aload_n 0, .getfield 15, .iload_n 1, .aload_n 0, .getfield 22, .iastore] := by unfold am_code; rw [kd_at_63]; rfl
theorem kc_63_48 : am_code 63 48 = [.aload_n 0, .iload_n 1, .invokevirtual 28, .return_] := by unfold am_code; rw [kd_at_63]; rfl
theorem kd_at_64 : am_kd 64 = kd_64 := rfl
theorem kc_64_0 : am_code 64 0 = [.aload_n 0, .getfield 22, .ifCond .ne (5)] := by unfold am_code; rw [kd_at_64]; rfl
theorem kc_64_7 : am_code 64 7 = [.iconst (-1), .ireturn] := by unfold am_code; rw [kd_at_64]; rfl
theorem kc_64_9 : am_code 64 9 = [.aload_n 0, .getfield 19, .iconst (1), .iaload, .istore_n 1, .aload_n 0, .getfield 19, .aload_n 0, .getfield 22, .iaload, .istore_n 2, .aload_n 0, .dup, .getfield 22, .iconst (1), .isub, .putfield 22, .aload_n 0, .getfield 22, .ifCond .le (8)] := by unfold am_code; rw [kd_at_64]; rfl
theorem kc_64_43 : am_code 64 43 = [.aload_n 0, .iload_n 2, .invokevirtual 32] := by unfold am_code; rw [kd_at_64]; rfl
theorem kc_64_48 : am_code 64 48 = [.iload_n 1, .ireturn] := by unfold am_code; rw [kd_at_64]; rfl
theorem kd_at_65 : am_kd 65 = kd_65 := rfl
theorem kc_65_0 : am_code 65 0 = [.aload_n 0, .getfield 15, .iload_n 1, .iaload, .istore_n 2, .iconst (0), .istore_n 3] := by unfold am_code; rw [kd_at_65]; rfl
theorem kc_65_9 : am_code 65 9 = [.iload_n 3, .bipush (32), .if_icmp .ge (64)] := by unfold am_code; rw [kd_at_65]; rfl
theorem kc_65_15 : am_code 65 15 = [.iload_n 2, .iconst (1), .if_icmp .le (59)] := by unfold am_code; rw [kd_at_65]; rfl
theorem kc_65_20 : am_code 65 20 = [.aload_n 0, .getfield 19, .iload_n 2, .iconst (2), .idiv, .iaload, .istore 4, .aload_n 0, .getfield 11, .iload 4, .laload, .aload_n 0, .getfield 11, .iload_n 1, .laload, .lcmp, .ifCond .gt (6)] := by unfold am_code; rw [kd_at_65]; rfl
theorem kc_65_47 : am_code 65 47 = [.goto (29)] := by unfold am_code; rw [kd_at_65]; rfl
theorem kc_65_50 : am_code 65 50 = [.aload_n 0, .getfield 19, .iload_n 2, .iload 4, .iastore, .aload_n 0, .getfield 15, .iload 4, .iload_n 2, .iastore, .iload_n 2, .iconst (2), .idiv, .istore_n 2, .iinc 3 (1), .goto (-64)] := by unfold am_code; rw [kd_at_65]; rfl
theorem kc_65_76 : am_code 65 76 = [.aload_n 0, .getfield 19, .iload_n 2, .iload_n 1, .iastore, .aload_n 0, .getfield 15, .iload_n 1, .iload_n 2, .iastore, .return_] := by unfold am_code; rw [kd_at_65]; rfl
theorem kd_at_66 : am_kd 66 = kd_66 := rfl
theorem kc_66_0 : am_code 66 0 = [.iconst (1), .istore_n 2, .iconst (0), .istore_n 3] := by unfold am_code; rw [kd_at_66]; rfl
theorem kc_66_4 : am_code 66 4 = [.iload_n 3, .bipush (32), .if_icmp .ge (114)] := by unfold am_code; rw [kd_at_66]; rfl
theorem kc_66_10 : am_code 66 10 = [.iconst (2), .iload_n 2, .imul, .aload_n 0, .getfield 22, .if_icmp .gt (104)] := by unfold am_code; rw [kd_at_66]; rfl
theorem kc_66_20 : am_code 66 20 = [.iconst (2), .iload_n 2, .imul, .istore 4, .iload 4, .aload_n 0, .getfield 22, .if_icmp .ge (36)] := by unfold am_code; rw [kd_at_66]; rfl
theorem kc_66_34 : am_code 66 34 = [.aload_n 0, .getfield 11, .aload_n 0, .getfield 19, .iload 4, .iconst (1), .iadd, .iaload, .laload, .aload_n 0, .getfield 11, .aload_n 0, .getfield 19, .iload 4, .iaload, .laload, .lcmp, .ifCond .ge (6)] := by unfold am_code; rw [kd_at_66]; rfl
theorem kc_66_64 : am_code 66 64 = [.iinc 4 (1)] := by unfold am_code; rw [kd_at_66]; rfl
theorem kc_66_67 : am_code 66 67 = [.aload_n 0, .getfield 19, .iload 4, .iaload, .istore 5, .aload_n 0, .getfield 11, .iload_n 1, .laload, .aload_n 0, .getfield 11, .iload 5, .laload, .lcmp, .ifCond .gt (6)] := by unfold am_code; rw [kd_at_66]; rfl
theorem kc_66_93 : am_code 66 93 = [.goto (28)] := by unfold am_code; rw [kd_at_66]; rfl
theorem kc_66_96 : am_code 66 96 = [.aload_n 0, .getfield 19, .iload_n 2, .iload 5, .iastore, .aload_n 0, .getfield 15, .iload 5, .iload_n 2, .iastore, .iload 4, .istore_n 2, .iinc 3 (1), .goto (-114)] := by unfold am_code; rw [kd_at_66]; rfl
theorem kc_66_121 : am_code 66 121 = [.aload_n 0, .getfield 19, .iload_n 2, .iload_n 1, .iastore, .aload_n 0, .getfield 15, .iload_n 1, .iload_n 2, .iastore, .return_] := by unfold am_code; rw [kd_at_66]; rfl
theorem kd_at_67 : am_kd 67 = kd_67 := rfl
theorem kc_67_0 : am_code 67 0 = [.lload_n 0, .lload 6, .lmul, .lload_n 2, .lload 4, .lmul, .lsub, .lstore 8, .lload_n 0, .lload 4, .lmul, .lload_n 2, .lload 6, .lmul, .ladd, .lstore 10, .ldc2_w 7, .lload 8, .invokestatic 9, .lmul, .lstore 12, .lload 12, .lload 10, .lcmp, .ifCond .gt (5)] := by unfold am_code; rw [kd_at_67]; rfl
theorem kc_67_41 : am_code 67 41 = [.iconst (0), .ireturn] := by unfold am_code; rw [kd_at_67]; rfl
theorem kc_67_43 : am_code 67 43 = [.lload 12, .lload 10, .lneg, .lcmp, .ifCond .gt (5)] := by unfold am_code; rw [kd_at_67]; rfl
theorem kc_67_52 : am_code 67 52 = [.iconst (3), .ireturn] := by unfold am_code; rw [kd_at_67]; rfl
theorem kc_67_54 : am_code 67 54 = [.lload 8, .lconst 0, .lcmp, .ifCond .le (7)] := by unfold am_code; rw [kd_at_67]; rfl
theorem kc_67_61 : am_code 67 61 = [.iconst (2), .goto (4)] := by unfold am_code; rw [kd_at_67]; rfl
theorem kc_67_65 : am_code 67 65 = [.iconst (1)] := by unfold am_code; rw [kd_at_67]; rfl
theorem kc_67_66 : am_code 67 66 = [.ireturn] := by unfold am_code; rw [kd_at_67]; rfl
theorem kd_at_68 : am_kd 68 = kd_68 := rfl
theorem kc_68_0 : am_code 68 0 = [.lload_n 0, .lconst 0, .lcmp, .ifCond .le (21)] := by unfold am_code; rw [kd_at_68]; rfl
theorem kc_68_6 : am_code 68 6 = [.lload_n 2, .lconst 0, .lcmp, .ifCond .lt (15)] := by unfold am_code; rw [kd_at_68]; rfl
theorem kc_68_12 : am_code 68 12 = [.lload_n 2, .lload_n 0, .lcmp, .ifCond .ge (7)] := by unfold am_code; rw [kd_at_68]; rfl
theorem kc_68_18 : am_code 68 18 = [.iconst (0), .goto (4)] := by unfold am_code; rw [kd_at_68]; rfl
theorem kc_68_22 : am_code 68 22 = [.iconst (1)] := by unfold am_code; rw [kd_at_68]; rfl
theorem kc_68_23 : am_code 68 23 = [.ireturn] := by unfold am_code; rw [kd_at_68]; rfl
theorem kc_68_24 : am_code 68 24 = [.lload_n 0, .lconst 0, .lcmp, .ifCond .gt (22)] := by unfold am_code; rw [kd_at_68]; rfl
theorem kc_68_30 : am_code 68 30 = [.lload_n 2, .lconst 0, .lcmp, .ifCond .le (16)] := by unfold am_code; rw [kd_at_68]; rfl
theorem kc_68_36 : am_code 68 36 = [.lload_n 0, .lneg, .lload_n 2, .lcmp, .ifCond .ge (7)] := by unfold am_code; rw [kd_at_68]; rfl
theorem kc_68_43 : am_code 68 43 = [.iconst (2), .goto (4)] := by unfold am_code; rw [kd_at_68]; rfl
theorem kc_68_47 : am_code 68 47 = [.iconst (3)] := by unfold am_code; rw [kd_at_68]; rfl
theorem kc_68_48 : am_code 68 48 = [.ireturn] := by unfold am_code; rw [kd_at_68]; rfl
theorem kc_68_49 : am_code 68 49 = [.lload_n 0, .lconst 0, .lcmp, .ifCond .ge (17)] := by unfold am_code; rw [kd_at_68]; rfl
theorem kc_68_55 : am_code 68 55 = [.lload_n 2, .lneg, .lload_n 0, .lneg, .lcmp, .ifCond .ge (7)] := by unfold am_code; rw [kd_at_68]; rfl
theorem kc_68_63 : am_code 68 63 = [.iconst (4), .goto (4)] := by unfold am_code; rw [kd_at_68]; rfl
theorem kc_68_67 : am_code 68 67 = [.iconst (5)] := by unfold am_code; rw [kd_at_68]; rfl
theorem kc_68_68 : am_code 68 68 = [.ireturn] := by unfold am_code; rw [kd_at_68]; rfl
theorem kc_68_69 : am_code 68 69 = [.lload_n 2, .lconst 0, .lcmp, .ifCond .ge (18)] := by unfold am_code; rw [kd_at_68]; rfl
theorem kc_68_75 : am_code 68 75 = [.lload_n 0, .lload_n 2, .lneg, .lcmp, .ifCond .ge (8)] := by unfold am_code; rw [kd_at_68]; rfl
theorem kc_68_82 : am_code 68 82 = [.bipush (6), .goto (5)] := by unfold am_code; rw [kd_at_68]; rfl
theorem kc_68_87 : am_code 68 87 = [.bipush (7)] := by unfold am_code; rw [kd_at_68]; rfl
theorem kc_68_89 : am_code 68 89 = [.ireturn] := by unfold am_code; rw [kd_at_68]; rfl
theorem kc_68_90 : am_code 68 90 = [.iconst (-1), .ireturn] := by unfold am_code; rw [kd_at_68]; rfl
theorem kd_at_69 : am_kd 69 = kd_69 := rfl
theorem kc_69_0 : am_code 69 0 = [.lload_n 0, .lload 4, .lmul, .lload_n 2, .lload 6, .lmul, .ladd, .lstore 8, .lload 4, .lload 4, .lmul, .lload 6, .lload 6, .lmul, .ladd, .lstore 10, .lload 8, .lconst 0, .lcmp, .ifCond .le (10)] := by unfold am_code; rw [kd_at_69]; rfl
theorem kc_69_31 : am_code 69 31 = [.lload 10, .lconst 0, .lcmp, .ifCond .gt (11)] := by unfold am_code; rw [kd_at_69]; rfl
theorem kc_69_38 : am_code 69 38 = [.lload_n 0, .lload_n 0, .lmul, .lload_n 2, .lload_n 2, .lmul, .ladd, .lreturn] := by unfold am_code; rw [kd_at_69]; rfl
theorem kc_69_46 : am_code 69 46 = [.lload 8, .lload 10, .lcmp, .ifCond .lt (23)] := by unfold am_code; rw [kd_at_69]; rfl
theorem kc_69_54 : am_code 69 54 = [.lload_n 0, .lload 4, .lsub, .lload_n 0, .lload 4, .lsub, .lmul, .lload_n 2, .lload 6, .lsub, .lload_n 2, .lload 6, .lsub, .lmul, .ladd, .lreturn] := by unfold am_code; rw [kd_at_69]; rfl
theorem kc_69_74 : am_code 69 74 = [.lload_n 0, .lload 6, .lmul, .lload_n 2, .lload 4, .lmul, .lsub, .lstore 12, .lload 12, .lload 12, .lmul, .lload 10, .ldiv, .lreturn] := by unfold am_code; rw [kd_at_69]; rfl
theorem kd_at_70 : am_kd 70 = kd_70 := rfl
theorem kc_70_0 : am_code 70 0 = [.aload_n 0, .invokespecial 3, .aload_n 0, .iconst (0), .putfield 9, .aload_n 0, .iconst (0), .putfield 13, .return_] := by unfold am_code; rw [kd_at_70]; rfl
theorem kd_at_71 : am_kd 71 = kd_71 := rfl
theorem kc_71_0 : am_code 71 0 = [.aload_n 0, .getfield 13, .ifCond .eq (21)] := by unfold am_code; rw [kd_at_71]; rfl
theorem kc_71_7 : am_code 71 7 = [.aload_n 0, .getfield 13, .sipush (255), .if_icmp .ne (25)] := by unfold am_code; rw [kd_at_71]; rfl
theorem kc_71_17 : am_code 71 17 = [.iload_n 1, .aload_n 0, .getfield 9, .if_icmp .le (17)] := by unfold am_code; rw [kd_at_71]; rfl
theorem kc_71_25 : am_code 71 25 = [.aload_n 0, .iload_n 1, .putfield 9, .aload_n 0, .iconst (1), .iload_n 2, .ishl, .putfield 13, .iconst (1), .ireturn] := by unfold am_code; rw [kd_at_71]; rfl
theorem kc_71_39 : am_code 71 39 = [.iload_n 1, .aload_n 0, .getfield 9, .if_icmp .ne (14)] := by unfold am_code; rw [kd_at_71]; rfl
theorem kc_71_47 : am_code 71 47 = [.aload_n 0, .getfield 13, .iload_n 2, .ishr, .iconst (1), .iand, .ifCond .eq (5)] := by unfold am_code; rw [kd_at_71]; rfl
theorem kc_71_58 : am_code 71 58 = [.iconst (0), .ireturn] := by unfold am_code; rw [kd_at_71]; rfl
theorem kc_71_60 : am_code 71 60 = [.aload_n 0, .dup, .getfield 13, .iconst (1), .iload_n 2, .ishl, .ior, .putfield 13, .iconst (1), .ireturn] := by unfold am_code; rw [kd_at_71]; rfl
theorem kd_at_72 : am_kd 72 = kd_72 := rfl
theorem kc_72_0 : am_code 72 0 = [.aload_n 0, .invokespecial 1, .aload_n 0, .iconst (3), .newarray .int, .putfield 9, .aload_n 0, .iconst (0), .putfield 13, .return_] := by unfold am_code; rw [kd_at_72]; rfl
theorem kd_at_73 : am_kd 73 = kd_73 := rfl
theorem kc_73_0 : am_code 73 0 = [.iload_n 1, .bipush (97), .if_icmp .lt (13)] := by unfold am_code; rw [kd_at_73]; rfl
theorem kc_73_6 : am_code 73 6 = [.iload_n 1, .bipush (122), .if_icmp .gt (7)] := by unfold am_code; rw [kd_at_73]; rfl
theorem kc_73_12 : am_code 73 12 = [.iconst (1), .goto (4)] := by unfold am_code; rw [kd_at_73]; rfl
theorem kc_73_16 : am_code 73 16 = [.iconst (0)] := by unfold am_code; rw [kd_at_73]; rfl
theorem kc_73_17 : am_code 73 17 = [.ireturn] := by unfold am_code; rw [kd_at_73]; rfl
theorem kd_at_74 : am_kd 74 = kd_74 := rfl
theorem kc_74_0 : am_code 74 0 = [.aload_n 0, .getfield 13, .iconst (3), .if_icmp .lt (7)] := by unfold am_code; rw [kd_at_74]; rfl
theorem kc_74_8 : am_code 74 8 = [.iconst (1), .goto (4)] := by unfold am_code; rw [kd_at_74]; rfl
theorem kc_74_12 : am_code 74 12 = [.iconst (0)] := by unfold am_code; rw [kd_at_74]; rfl
theorem kc_74_13 : am_code 74 13 = [.ireturn] := by unfold am_code; rw [kd_at_74]; rfl
theorem kd_at_75 : am_kd 75 = kd_75 := rfl
theorem kc_75_0 : am_code 75 0 = [.aload_n 0, .iconst (0), .putfield 13, .return_] := by unfold am_code; rw [kd_at_75]; rfl
theorem kd_at_76 : am_kd 76 = kd_76 := rfl
theorem kc_76_0 : am_code 76 0 = [.aload_n 0, .getfield 13, .iconst (3), .if_icmp .ge (26)] := by unfold am_code; rw [kd_at_76]; rfl
theorem kc_76_8 : am_code 76 8 = [.aload_n 0, .getfield 9, .aload_n 0, .getfield 13, .iload_n 1, .bipush (97), .isub, .iastore, .aload_n 0, .dup, .getfield 13, .iconst (1), .iadd, .putfield 13] := by unfold am_code; rw [kd_at_76]; rfl
theorem kc_76_31 : am_code 76 31 = [.return_] := by unfold am_code; rw [kd_at_76]; rfl
theorem kd_at_77 : am_kd 77 = kd_77 := rfl
theorem kc_77_0 : am_code 77 0 = [.iconst (0), .istore_n 2, .iconst (1), .istore_n 3] := by unfold am_code; rw [kd_at_77]; rfl
theorem kc_77_4 : am_code 77 4 = [.iload_n 3, .iload_n 1, .if_icmp .gt (20)] := by unfold am_code; rw [kd_at_77]; rfl
theorem kc_77_9 : am_code 77 9 = [.aload_n 0, .iload_n 3, .invokevirtual 17, .ifCond .eq (6)] := by unfold am_code; rw [kd_at_77]; rfl
theorem kc_77_17 : am_code 77 17 = [.iinc 2 (1)] := by unfold am_code; rw [kd_at_77]; rfl
theorem kc_77_20 : am_code 77 20 = [.iinc 3 (1), .goto (-19)] := by unfold am_code; rw [kd_at_77]; rfl
theorem kc_77_26 : am_code 77 26 = [.iload_n 2, .ireturn] := by unfold am_code; rw [kd_at_77]; rfl
theorem kd_at_78 : am_kd 78 = kd_78 := rfl
theorem kc_78_0 : am_code 78 0 = [.iconst (0), .istore_n 2] := by unfold am_code; rw [kd_at_78]; rfl
theorem kc_78_2 : am_code 78 2 = [.iload_n 2, .aload_n 0, .getfield 13, .if_icmp .ge (25)] := by unfold am_code; rw [kd_at_78]; rfl
theorem kc_78_10 : am_code 78 10 = [.aload_n 0, .getfield 9, .iload_n 2, .iaload, .iload_n 1, .iload_n 2, .invokestatic 21, .if_icmp .eq (5)] := by unfold am_code; rw [kd_at_78]; rfl
theorem kc_78_24 : am_code 78 24 = [.iconst (0), .ireturn] := by unfold am_code; rw [kd_at_78]; rfl
theorem kc_78_26 : am_code 78 26 = [.iinc 2 (1), .goto (-27)] := by unfold am_code; rw [kd_at_78]; rfl
theorem kc_78_32 : am_code 78 32 = [.iconst (1), .ireturn] := by unfold am_code; rw [kd_at_78]; rfl
theorem kd_at_79 : am_kd 79 = kd_79 := rfl
theorem kc_79_0 : am_code 79 0 = [.iload_n 1, .lookupswitch (41) #[((0), (27)), ((1), (33))]] := by unfold am_code; rw [kd_at_79]; rfl
theorem kc_79_28 : am_code 79 28 = [.iload_n 0, .sipush (676), .idiv, .ireturn] := by unfold am_code; rw [kd_at_79]; rfl
theorem kc_79_34 : am_code 79 34 = [.iload_n 0, .bipush (26), .idiv, .bipush (26), .irem, .ireturn] := by unfold am_code; rw [kd_at_79]; rfl
theorem kc_79_42 : am_code 79 42 = [.iload_n 0, .bipush (26), .irem, .ireturn] := by unfold am_code; rw [kd_at_79]; rfl
theorem kd_at_80 : am_kd 80 = kd_80 := rfl
theorem kc_80_0 : am_code 80 0 = [.aload_n 0, .invokespecial 3, .aload_n 0, .bipush (61), .newarray .long, .putfield 9, .aload_n 0, .bipush (61), .newarray .long, .putfield 15, .aload_n 0, .bipush (61), .newarray .long, .putfield 18, .aload_n 0, .iconst (0), .putfield 21, .return_] := by unfold am_code; rw [kd_at_80]; rfl
theorem kd_at_81 : am_kd 81 = kd_81 := rfl
theorem kc_81_0 : am_code 81 0 = [.aload_n 0, .getfield 21, .ireturn] := by unfold am_code; rw [kd_at_81]; rfl
theorem kd_at_82 : am_kd 82 = kd_82 := rfl
theorem kc_82_0 : am_code 82 0 = [.iload_n 1, .iconst (1), .if_icmp .lt (15)] := by unfold am_code; rw [kd_at_82]; rfl
theorem kc_82_5 : am_code 82 5 = [.iload_n 1, .aload_n 0, .getfield 21, .if_icmp .gt (7)] := by unfold am_code; rw [kd_at_82]; rfl
theorem kc_82_13 : am_code 82 13 = [.iconst (1), .goto (4)] := by unfold am_code; rw [kd_at_82]; rfl
theorem kc_82_17 : am_code 82 17 = [.iconst (0)] := by unfold am_code; rw [kd_at_82]; rfl
theorem kc_82_18 : am_code 82 18 = [.ireturn] := by unfold am_code; rw [kd_at_82]; rfl
theorem kd_at_83 : am_kd 83 = kd_83 := rfl
theorem kc_83_0 : am_code 83 0 = [.aload_n 0, .getfield 21, .bipush (60), .if_icmp .lt (7)] := by unfold am_code; rw [kd_at_83]; rfl
theorem kc_83_9 : am_code 83 9 = [.iconst (1), .goto (4)] := by unfold am_code; rw [kd_at_83]; rfl
theorem kc_83_13 : am_code 83 13 = [.iconst (0)] := by unfold am_code; rw [kd_at_83]; rfl
theorem kc_83_14 : am_code 83 14 = [.ireturn] := by unfold am_code; rw [kd_at_83]; rfl
theorem kd_at_84 : am_kd 84 = kd_84 := rfl
theorem kc_84_0 : am_code 84 0 = [.aload_n 0, .dup, .getfield 21, .iconst (1), .iadd, .putfield 21, .aload_n 0, .getfield 9, .aload_n 0, .getfield 21, .lload_n 1, .lastore, .aload_n 0, .getfield 15, .aload_n 0, .getfield 21, .lload_n 3, .lastore, .aload_n 0, .getfield 21, .ireturn] := by unfold am_code; rw [kd_at_84]; rfl
theorem kd_at_85 : am_kd 85 = kd_85 := rfl
theorem kc_85_0 : am_code 85 0 = [.aload_n 0, .getfield 9, .iload_n 1, .laload, .lreturn] := by unfold am_code; rw [kd_at_85]; rfl
theorem kd_at_86 : am_kd 86 = kd_86 := rfl
theorem kc_86_0 : am_code 86 0 = [.aload_n 0, .getfield 15, .iload_n 1, .laload, .lreturn] := by unfold am_code; rw [kd_at_86]; rfl
theorem kd_at_87 : am_kd 87 = kd_87 := rfl
theorem kc_87_0 : am_code 87 0 = [.aload_n 0, .getfield 9, .iload_n 1, .laload, .aload_n 0, .getfield 9, .iload_n 2, .laload, .lsub, .lstore_n 3, .aload_n 0, .getfield 15, .iload_n 1, .laload, .aload_n 0, .getfield 15, .iload_n 2, .laload, .lsub, .lstore 5, .lload_n 3, .lload_n 3, .lmul, .lload 5, .lload 5, .lmul, .ladd, .lreturn] := by unfold am_code; rw [kd_at_87]; rfl
theorem kd_at_88 : am_kd 88 = kd_88 := rfl
theorem kc_88_0 : am_code 88 0 = [.aload_n 0, .getfield 18, .iload_n 1, .lload_n 2, .lastore, .return_] := by unfold am_code; rw [kd_at_88]; rfl
theorem kd_at_89 : am_kd 89 = kd_89 := rfl
theorem kc_89_0 : am_code 89 0 = [.aload_n 0, .getfield 18, .iload_n 1, .laload, .lconst 0, .lcmp, .ifCond .le (7)] := by unfold am_code; rw [kd_at_89]; rfl
theorem kc_89_11 : am_code 89 11 = [.iconst (1), .goto (4)] := by unfold am_code; rw [kd_at_89]; rfl
theorem kc_89_15 : am_code 89 15 = [.iconst (0)] := by unfold am_code; rw [kd_at_89]; rfl
theorem kc_89_16 : am_code 89 16 = [.ireturn] := by unfold am_code; rw [kd_at_89]; rfl
theorem kd_at_90 : am_kd 90 = kd_90 := rfl
theorem kc_90_0 : am_code 90 0 = [.aload_n 0, .getfield 18, .iload_n 1, .laload, .lstore_n 2, .lload_n 2, .lconst 0, .lcmp, .ifCond .le (15)] := by unfold am_code; rw [kd_at_90]; rfl
theorem kc_90_13 : am_code 90 13 = [.lconst 1, .ldc2_w 25, .lload_n 2, .ldiv, .invokestatic 27, .goto (4)] := by unfold am_code; rw [kd_at_90]; rfl
theorem kc_90_25 : am_code 90 25 = [.lconst 0] := by unfold am_code; rw [kd_at_90]; rfl
theorem kc_90_26 : am_code 90 26 = [.lreturn] := by unfold am_code; rw [kd_at_90]; rfl
theorem kd_at_91 : am_kd 91 = kd_91 := rfl
theorem kc_91_0 : am_code 91 0 = [.iconst (0), .istore_n 1, .iconst (1), .istore_n 2] := by unfold am_code; rw [kd_at_91]; rfl
theorem kc_91_4 : am_code 91 4 = [.iload_n 2, .aload_n 0, .getfield 21, .if_icmp .gt (20)] := by unfold am_code; rw [kd_at_91]; rfl
theorem kc_91_12 : am_code 91 12 = [.aload_n 0, .iload_n 2, .invokevirtual 33, .ifCond .eq (6)] := by unfold am_code; rw [kd_at_91]; rfl
theorem kc_91_20 : am_code 91 20 = [.iinc 1 (1)] := by unfold am_code; rw [kd_at_91]; rfl
theorem kc_91_23 : am_code 91 23 = [.iinc 2 (1), .goto (-22)] := by unfold am_code; rw [kd_at_91]; rfl
theorem kc_91_29 : am_code 91 29 = [.iload_n 1, .ireturn] := by unfold am_code; rw [kd_at_91]; rfl
theorem kd_at_92 : am_kd 92 = kd_92 := rfl
theorem kc_92_0 : am_code 92 0 = [.aload_n 0, .invokespecial 3, .aload_n 0, .bipush (121), .newarray .int, .putfield 9, .aload_n 0, .bipush (121), .newarray .int, .putfield 15, .aload_n 0, .bipush (121), .newarray .long, .putfield 18, .aload_n 0, .bipush (121), .newarray .long, .putfield 22, .aload_n 0, .bipush (121), .newarray .int, .putfield 25, .aload_n 0, .bipush (121), .newarray .long, .putfield 28, .aload_n 0, .bipush (121), .newarray .long, .putfield 31, .aload_n 0, .sipush (242), .newarray .long, .putfield 34, .aload_n 0, .iconst (0), .putfield 37, .return_] := by unfold am_code; rw [kd_at_92]; rfl
theorem kd_at_93 : am_kd 93 = kd_93 := rfl
theorem kc_93_0 : am_code 93 0 = [.aload_n 0, .getfield 37, .ireturn] := by unfold am_code; rw [kd_at_93]; rfl
theorem kd_at_94 : am_kd 94 = kd_94 := rfl
theorem kc_94_0 : am_code 94 0 = [.iload_n 1, .iconst (1), .if_icmp .lt (15)] := by unfold am_code; rw [kd_at_94]; rfl
theorem kc_94_5 : am_code 94 5 = [.iload_n 1, .aload_n 0, .getfield 37, .if_icmp .gt (7)] := by unfold am_code; rw [kd_at_94]; rfl
theorem kc_94_13 : am_code 94 13 = [.iconst (1), .goto (4)] := by unfold am_code; rw [kd_at_94]; rfl
theorem kc_94_17 : am_code 94 17 = [.iconst (0)] := by unfold am_code; rw [kd_at_94]; rfl
theorem kc_94_18 : am_code 94 18 = [.ireturn] := by unfold am_code; rw [kd_at_94]; rfl
theorem kd_at_95 : am_kd 95 = kd_95 := rfl
theorem kc_95_0 : am_code 95 0 = [.aload_n 0, .getfield 37, .bipush (120), .if_icmp .lt (7)] := by unfold am_code; rw [kd_at_95]; rfl
theorem kc_95_9 : am_code 95 9 = [.iconst (1), .goto (4)] := by unfold am_code; rw [kd_at_95]; rfl
theorem kc_95_13 : am_code 95 13 = [.iconst (0)] := by unfold am_code; rw [kd_at_95]; rfl
theorem kc_95_14 : am_code 95 14 = [.ireturn] := by unfold am_code; rw [kd_at_95]; rfl
theorem kd_at_96 : am_kd 96 = kd_96 := rfl
theorem kc_96_0 : am_code 96 0 = [.aload_n 0, .dup, .getfield 37, .iconst (1), .iadd, .putfield 37, .aload_n 0, .getfield 9, .aload_n 0, .getfield 37, .iload_n 1, .iastore, .aload_n 0, .getfield 15, .aload_n 0, .getfield 37, .iload_n 2, .iastore, .aload_n 0, .getfield 18, .aload_n 0, .getfield 37, .lload_n 3, .lastore, .aload_n 0, .getfield 22, .aload_n 0, .getfield 37, .lload 5, .lastore, .aload_n 0, .getfield 25, .aload_n 0, .getfield 37, .iload 7, .iastore, .aload_n 0, .getfield 37, .ireturn] := by unfold am_code; rw [kd_at_96]; rfl
theorem kd_at_97 : am_kd 97 = kd_97 := rfl
theorem kc_97_0 : am_code 97 0 = [.aload_n 0, .getfield 15, .iconst (0), .iload_n 1, .iastore, .return_] := by unfold am_code; rw [kd_at_97]; rfl
theorem kd_at_98 : am_kd 98 = kd_98 := rfl
theorem kc_98_0 : am_code 98 0 = [.aload_n 0, .getfield 9, .iload_n 1, .iaload, .ireturn] := by unfold am_code; rw [kd_at_98]; rfl
theorem kd_at_99 : am_kd 99 = kd_99 := rfl
theorem kc_99_0 : am_code 99 0 = [.aload_n 0, .getfield 15, .iload_n 1, .iaload, .ireturn] := by unfold am_code; rw [kd_at_99]; rfl
theorem kd_at_100 : am_kd 100 = kd_100 := rfl
theorem kc_100_0 : am_code 100 0 = [.aload_n 0, .getfield 18, .iload_n 1, .laload, .lreturn] := by unfold am_code; rw [kd_at_100]; rfl
theorem kd_at_101 : am_kd 101 = kd_101 := rfl
theorem kc_101_0 : am_code 101 0 = [.lconst 1, .aload_n 0, .getfield 18, .iload_n 1, .laload, .lconst 1, .aload_n 0, .getfield 25, .iload_n 1, .iaload, .i2l, .ladd, .lmul, .ldc2_w 41, .ldiv, .ladd, .l2i, .ireturn] := by unfold am_code; rw [kd_at_101]; rfl
theorem kd_at_102 : am_kd 102 = kd_102 := rfl
theorem kc_102_0 : am_code 102 0 = [.aload_n 0, .getfield 34, .iload_n 1, .iconst (2), .imul, .iload_n 2, .bipush (64), .idiv, .iadd, .laload, .iload_n 2, .bipush (64), .irem, .lushr, .lconst 1, .land, .lconst 0, .lcmp, .ifCond .eq (7)] := by unfold am_code; rw [kd_at_102]; rfl
theorem kc_102_25 : am_code 102 25 = [.iconst (1), .goto (4)] := by unfold am_code; rw [kd_at_102]; rfl
theorem kc_102_29 : am_code 102 29 = [.iconst (0)] := by unfold am_code; rw [kd_at_102]; rfl
theorem kc_102_30 : am_code 102 30 = [.ireturn] := by unfold am_code; rw [kd_at_102]; rfl
theorem kd_at_103 : am_kd 103 = kd_103 := rfl
theorem kc_103_0 : am_code 103 0 = [.aload_n 0, .getfield 34, .iload_n 1, .iconst (2), .imul, .iload_n 2, .bipush (64), .idiv, .iadd, .dup2, .laload, .lconst 1, .iload_n 2, .bipush (64), .irem, .lshl, .lxor, .lastore, .return_] := by unfold am_code; rw [kd_at_103]; rfl
theorem kd_at_104 : am_kd 104 = kd_104 := rfl
theorem kc_104_0 : am_code 104 0 = [.aload_n 0, .getfield 28, .iload_n 1, .lload_n 2, .lastore, .aload_n 0, .getfield 31, .iload_n 1, .lload 4, .lastore, .return_] := by unfold am_code; rw [kd_at_104]; rfl
theorem kd_at_105 : am_kd 105 = kd_105 := rfl
theorem kc_105_0 : am_code 105 0 = [.iconst (0), .istore_n 3, .iconst (1), .istore 4] := by unfold am_code; rw [kd_at_105]; rfl
theorem kc_105_5 : am_code 105 5 = [.iload 4, .aload_n 0, .getfield 37, .if_icmp .gt (24)] := by unfold am_code; rw [kd_at_105]; rfl
theorem kc_105_14 : am_code 105 14 = [.lload_n 1, .aload_n 0, .getfield 31, .iload 4, .laload, .lcmp, .ifCond .gt (6)] := by unfold am_code; rw [kd_at_105]; rfl
theorem kc_105_26 : am_code 105 26 = [.iinc 3 (1)] := by unfold am_code; rw [kd_at_105]; rfl
theorem kc_105_29 : am_code 105 29 = [.iinc 4 (1), .goto (-27)] := by unfold am_code; rw [kd_at_105]; rfl
theorem kc_105_35 : am_code 105 35 = [.iload_n 3, .ireturn] := by unfold am_code; rw [kd_at_105]; rfl
theorem kd_at_106 : am_kd 106 = kd_106 := rfl
theorem kc_106_0 : am_code 106 0 = [.lload_n 2, .aload_n 0, .getfield 31, .iload_n 1, .laload, .lcmp, .ifCond .gt (12)] := by unfold am_code; rw [kd_at_106]; rfl
theorem kc_106_11 : am_code 106 11 = [.aload_n 0, .getfield 28, .iload_n 1, .laload, .goto (9)] := by unfold am_code; rw [kd_at_106]; rfl
theorem kc_106_20 : am_code 106 20 = [.aload_n 0, .getfield 22, .iload_n 1, .laload] := by unfold am_code; rw [kd_at_106]; rfl
theorem kc_106_26 : am_code 106 26 = [.lstore 4, .lload 4, .lconst 0, .lcmp, .ifCond .le (19)] := by unfold am_code; rw [kd_at_106]; rfl
theorem kc_106_35 : am_code 106 35 = [.ldc2_w 43, .aload_n 0, .getfield 18, .iload_n 1, .laload, .lmul, .lload 4, .ldiv, .goto (6)] := by unfold am_code; rw [kd_at_106]; rfl
theorem kc_106_51 : am_code 106 51 = [.ldc2_w 45] := by unfold am_code; rw [kd_at_106]; rfl
theorem kc_106_54 : am_code 106 54 = [.lreturn] := by unfold am_code; rw [kd_at_106]; rfl
theorem kd_at_107 : am_kd 107 = kd_107 := rfl
theorem kc_107_0 : am_code 107 0 = [.aload_n 0, .invokespecial 3, .aload_n 0, .sipush (2400), .newarray .int, .putfield 9, .aload_n 0, .iconst (0), .putfield 15, .aload_n 0, .lconst 0, .putfield 19, .aload_n 0, .iconst (0), .putfield 23, .return_] := by unfold am_code; rw [kd_at_107]; rfl
theorem kd_at_108 : am_kd 108 = kd_108 := rfl
theorem kc_108_0 : am_code 108 0 = [.aload_n 0, .getfield 23, .ireturn] := by unfold am_code; rw [kd_at_108]; rfl
theorem kd_at_109 : am_kd 109 = kd_109 := rfl
theorem kc_109_0 : am_code 109 0 = [.aload_n 0, .getfield 15, .ireturn] := by unfold am_code; rw [kd_at_109]; rfl
theorem kd_at_110 : am_kd 110 = kd_110 := rfl
theorem kc_110_0 : am_code 110 0 = [.aload_n 0, .getfield 19, .lreturn] := by unfold am_code; rw [kd_at_110]; rfl
theorem kd_at_111 : am_kd 111 = kd_111 := rfl
theorem kc_111_0 : am_code 111 0 = [.iload_n 1, .ifCond .lt (23)] := by unfold am_code; rw [kd_at_111]; rfl
theorem kc_111_4 : am_code 111 4 = [.iload_n 1, .aload_n 0, .getfield 15, .if_icmp .ge (15)] := by unfold am_code; rw [kd_at_111]; rfl
theorem kc_111_12 : am_code 111 12 = [.aload_n 0, .getfield 9, .iload_n 1, .iaload, .invokestatic 27, .goto (4)] := by unfold am_code; rw [kd_at_111]; rfl
theorem kc_111_24 : am_code 111 24 = [.iconst (0)] := by unfold am_code; rw [kd_at_111]; rfl
theorem kc_111_25 : am_code 111 25 = [.ireturn] := by unfold am_code; rw [kd_at_111]; rfl
theorem kd_at_112 : am_kd 112 = kd_112 := rfl
theorem kc_112_0 : am_code 112 0 = [.aload_n 0, .iconst (0), .putfield 23, .aload_n 0, .iconst (0), .putfield 15, .aload_n 0, .lconst 0, .putfield 19, .return_] := by unfold am_code; rw [kd_at_112]; rfl
theorem kd_at_113 : am_kd 113 = kd_113 := rfl
theorem kc_113_0 : am_code 113 0 = [.aload_n 0, .getfield 15, .sipush (2400), .if_icmp .ge (23)] := by unfold am_code; rw [kd_at_113]; rfl
theorem kc_113_10 : am_code 113 10 = [.aload_n 0, .getfield 9, .aload_n 0, .getfield 15, .iload_n 1, .iastore, .aload_n 0, .dup, .getfield 15, .iconst (1), .iadd, .putfield 15] := by unfold am_code; rw [kd_at_113]; rfl
theorem kc_113_30 : am_code 113 30 = [.return_] := by unfold am_code; rw [kd_at_113]; rfl
theorem kd_at_114 : am_kd 114 = kd_114 := rfl
theorem kc_114_0 : am_code 114 0 = [.aload_n 0, .iconst (1), .putfield 23, .aload_n 0, .lload_n 1, .putfield 19, .return_] := by unfold am_code; rw [kd_at_114]; rfl
theorem kd_at_115 : am_kd 115 = kd_115 := rfl
theorem kc_115_0 : am_code 115 0 = [.iload_n 1, .ifCond .lt (20)] := by unfold am_code; rw [kd_at_115]; rfl
theorem kc_115_4 : am_code 115 4 = [.iload_n 1, .aload_n 0, .getfield 15, .if_icmp .ge (12)] := by unfold am_code; rw [kd_at_115]; rfl
theorem kc_115_12 : am_code 115 12 = [.aload_n 0, .getfield 9, .iload_n 1, .iaload, .ifCond .ge (5)] := by unfold am_code; rw [kd_at_115]; rfl
theorem kc_115_21 : am_code 115 21 = [.iconst (0), .ireturn] := by unfold am_code; rw [kd_at_115]; rfl
theorem kc_115_23 : am_code 115 23 = [.aload_n 0, .getfield 9, .iload_n 1, .aload_n 0, .getfield 9, .iload_n 1, .iaload, .ineg, .iastore, .iconst (1), .ireturn] := by unfold am_code; rw [kd_at_115]; rfl
theorem kd_at_116 : am_kd 116 = kd_116 := rfl
theorem kc_116_0 : am_code 116 0 = [.aload_n 0, .getfield 15, .aload_n 1, .getfield 15, .if_icmp .eq (5)] := by unfold am_code; rw [kd_at_116]; rfl
theorem kc_116_11 : am_code 116 11 = [.iconst (0), .ireturn] := by unfold am_code; rw [kd_at_116]; rfl
theorem kc_116_13 : am_code 116 13 = [.iconst (0), .istore_n 2] := by unfold am_code; rw [kd_at_116]; rfl
theorem kc_116_15 : am_code 116 15 = [.iload_n 2, .aload_n 0, .getfield 15, .if_icmp .ge (24)] := by unfold am_code; rw [kd_at_116]; rfl
theorem kc_116_23 : am_code 116 23 = [.aload_n 0, .iload_n 2, .invokevirtual 33, .aload_n 1, .iload_n 2, .invokevirtual 33, .if_icmp .eq (5)] := by unfold am_code; rw [kd_at_116]; rfl
theorem kc_116_36 : am_code 116 36 = [.iconst (0), .ireturn] := by unfold am_code; rw [kd_at_116]; rfl
theorem kc_116_38 : am_code 116 38 = [.iinc 2 (1), .goto (-26)] := by unfold am_code; rw [kd_at_116]; rfl
theorem kc_116_44 : am_code 116 44 = [.iconst (1), .ireturn] := by unfold am_code; rw [kd_at_116]; rfl
theorem kd_at_117 : am_kd 117 = kd_117 := rfl
theorem kc_117_0 : am_code 117 0 = [.aload_n 0, .invokespecial 3, .aload_n 0, .new 9, .dup, .invokespecial 11, .putfield 12, .aload_n 0, .bipush (121), .newarray .long, .putfield 18, .aload_n 0, .bipush (121), .newarray .int, .putfield 22, .aload_n 0, .bipush (61), .newarray .long, .putfield 26, .aload_n 0, .bipush (121), .newarray .int, .putfield 29, .aload_n 0, .bipush (21), .newarray .long, .putfield 32, .aload_n 0, .iconst (0), .putfield 35, .aload_n 0, .iconst (0), .putfield 39, .aload_n 0, .iconst (0), .putfield 42, .aload_n 0, .iconst (0), .putfield 45, .aload_n 0, .aload_n 1, .putfield 48, .aload_n 0, .aload_n 2, .putfield 52, .return_] := by unfold am_code; rw [kd_at_117]; rfl
theorem kd_at_118 : am_kd 118 = kd_118 := rfl
theorem kc_118_0 : am_code 118 0 = [.aload_n 0, .iload_n 1, .putfield 35, .aload_n 0, .iload_n 2, .putfield 39, .aload_n 0, .iload_n 3, .putfield 42, .aload_n 0, .iload 4, .putfield 45, .aload_n 0, .getfield 52, .iload_n 1, .invokevirtual 56, .return_] := by unfold am_code; rw [kd_at_118]; rfl
theorem kd_at_119 : am_kd 119 = kd_119 := rfl
theorem kc_119_0 : am_code 119 0 = [.iconst (1), .istore_n 3] := by unfold am_code; rw [kd_at_119]; rfl
theorem kc_119_2 : am_code 119 2 = [.iload_n 3, .aload_n 0, .getfield 48, .invokevirtual 62, .if_icmp .gt (39)] := by unfold am_code; rw [kd_at_119]; rfl
theorem kc_119_13 : am_code 119 13 = [.aload_n 0, .getfield 26, .iload_n 3, .aload_n 0, .getfield 42, .iconst (2), .if_icmp .ne (18)] := by unfold am_code; rw [kd_at_119]; rfl
theorem kc_119_26 : am_code 119 26 = [.aload_n 0, .getfield 48, .iload_n 3, .invokevirtual 68, .ldc2_w 72, .lmul, .goto (4)] := by unfold am_code; rw [kd_at_119]; rfl
theorem kc_119_41 : am_code 119 41 = [.lconst 0] := by unfold am_code; rw [kd_at_119]; rfl
theorem kc_119_42 : am_code 119 42 = [.lastore, .iinc 3 (1), .goto (-44)] := by unfold am_code; rw [kd_at_119]; rfl
theorem kc_119_49 : am_code 119 49 = [.iconst (1), .istore_n 3] := by unfold am_code; rw [kd_at_119]; rfl
theorem kc_119_51 : am_code 119 51 = [.iload_n 3, .aload_n 0, .getfield 52, .invokevirtual 74, .if_icmp .gt (98)] := by unfold am_code; rw [kd_at_119]; rfl
theorem kc_119_62 : am_code 119 62 = [.aload_n 0, .getfield 52, .iload_n 3, .lload_n 1, .invokevirtual 75, .lstore 4, .aload_n 0, .getfield 42, .iconst (1), .if_icmp .ne (14)] := by unfold am_code; rw [kd_at_119]; rfl
theorem kc_119_81 : am_code 119 81 = [.aload_n 0, .getfield 52, .iload_n 3, .invokevirtual 79, .goto (5)] := by unfold am_code; rw [kd_at_119]; rfl
theorem kc_119_92 : am_code 119 92 = [.lload 4] := by unfold am_code; rw [kd_at_119]; rfl
theorem kc_119_94 : am_code 119 94 = [.lstore 6, .aload_n 0, .getfield 18, .iload_n 3, .lload 4, .ldc2_w 82, .lcmp, .ifCond .ne (9)] := by unfold am_code; rw [kd_at_119]; rfl
theorem kc_119_110 : am_code 119 110 = [.ldc2_w 82, .goto (11)] := by unfold am_code; rw [kd_at_119]; rfl
theorem kc_119_116 : am_code 119 116 = [.lload 6, .ldc2_w 72, .lmul, .lconst 1, .ladd] := by unfold am_code; rw [kd_at_119]; rfl
theorem kc_119_124 : am_code 119 124 = [.lastore, .aload_n 0, .getfield 22, .iload_n 3, .aload_n 0, .getfield 42, .iconst (2), .if_icmp .ne (14)] := by unfold am_code; rw [kd_at_119]; rfl
theorem kc_119_138 : am_code 119 138 = [.aload_n 0, .getfield 52, .iload_n 3, .invokevirtual 84, .goto (4)] := by unfold am_code; rw [kd_at_119]; rfl
theorem kc_119_149 : am_code 119 149 = [.iconst (0)] := by unfold am_code; rw [kd_at_119]; rfl
theorem kc_119_150 : am_code 119 150 = [.iastore, .iinc 3 (1), .goto (-103)] := by unfold am_code; rw [kd_at_119]; rfl
theorem kc_119_157 : am_code 119 157 = [.return_] := by unfold am_code; rw [kd_at_119]; rfl
theorem kd_at_120 : am_kd 120 = kd_120 := rfl
theorem kc_120_0 : am_code 120 0 = [.aload_n 1, .invokevirtual 88, .aload_n 0, .getfield 35, .aload_n 0, .getfield 39, .if_icmp .ne (10)] := by unfold am_code; rw [kd_at_120]; rfl
theorem kc_120_15 : am_code 120 15 = [.aload_n 1, .lconst 0, .invokevirtual 93, .iconst (1), .ireturn] := by unfold am_code; rw [kd_at_120]; rfl
theorem kc_120_22 : am_code 120 22 = [.aload_n 0, .invokevirtual 97, .aload_n 0, .getfield 12, .aload_n 0, .invokevirtual 100, .invokevirtual 103, .lstore_n 2, .lload_n 2, .ldc2_w 106, .lcmp, .ifCond .lt (5)] := by unfold am_code; rw [kd_at_120]; rfl
theorem kc_120_46 : am_code 120 46 = [.iconst (0), .ireturn] := by unfold am_code; rw [kd_at_120]; rfl
theorem kc_120_48 : am_code 120 48 = [.aload_n 0, .aload_n 1, .lload_n 2, .invokevirtual 108, .aload_n 1, .lload_n 2, .ldc2_w 72, .ldiv, .invokevirtual 93, .iconst (1), .ireturn] := by unfold am_code; rw [kd_at_120]; rfl
theorem kd_at_121 : am_kd 121 = kd_121 := rfl
theorem kc_121_0 : am_code 121 0 = [.aload_n 0, .invokevirtual 112, .iconst (0), .istore_n 2, .iconst (0), .istore_n 3] := by unfold am_code; rw [kd_at_121]; rfl
theorem kc_121_8 : am_code 121 8 = [.iload_n 3, .aload_n 1, .invokevirtual 115, .if_icmp .ge (51)] := by unfold am_code; rw [kd_at_121]; rfl
theorem kc_121_16 : am_code 121 16 = [.aload_n 1, .iload_n 3, .invokevirtual 118, .istore 4, .aload_n 0, .iload_n 2, .iload 4, .invokevirtual 121, .ifCond .ne (7)] := by unfold am_code; rw [kd_at_121]; rfl
theorem kc_121_33 : am_code 121 33 = [.ldc2_w 82, .lreturn] := by unfold am_code; rw [kd_at_121]; rfl
theorem kc_121_37 : am_code 121 37 = [.aload_n 0, .aload_n 0, .getfield 52, .iload_n 2, .invokevirtual 125, .invokevirtual 128, .aload_n 0, .iload 4, .invokevirtual 131, .iload 4, .istore_n 2, .iinc 3 (1), .goto (-53)] := by unfold am_code; rw [kd_at_121]; rfl
theorem kc_121_64 : am_code 121 64 = [.aload_n 0, .invokevirtual 134, .lstore_n 3, .lload_n 3, .ldc2_w 106, .lcmp, .ifCond .lt (9)] := by unfold am_code; rw [kd_at_121]; rfl
theorem kc_121_77 : am_code 121 77 = [.ldc2_w 82, .goto (8)] := by unfold am_code; rw [kd_at_121]; rfl
theorem kc_121_83 : am_code 121 83 = [.lload_n 3, .ldc2_w 72, .ldiv] := by unfold am_code; rw [kd_at_121]; rfl
theorem kc_121_88 : am_code 121 88 = [.lreturn] := by unfold am_code; rw [kd_at_121]; rfl
theorem kd_at_122 : am_kd 122 = kd_122 := rfl
theorem kc_122_0 : am_code 122 0 = [.aload_n 0, .getfield 42, .iconst (2), .if_icmp .eq (5)] := by unfold am_code; rw [kd_at_122]; rfl
theorem kc_122_8 : am_code 122 8 = [.iconst (0), .ireturn] := by unfold am_code; rw [kd_at_122]; rfl
theorem kc_122_10 : am_code 122 10 = [.aload_n 0, .invokevirtual 138, .iconst (0), .istore_n 1, .lconst 0, .lstore_n 2, .iconst (1), .istore 4] := by unfold am_code; rw [kd_at_122]; rfl
theorem kc_122_21 : am_code 122 21 = [.iload 4, .aload_n 0, .getfield 48, .invokevirtual 62, .if_icmp .gt (62)] := by unfold am_code; rw [kd_at_122]; rfl
theorem kc_122_33 : am_code 122 33 = [.aload_n 0, .getfield 48, .iload 4, .invokevirtual 141, .ifCond .eq (44)] := by unfold am_code; rw [kd_at_122]; rfl
theorem kc_122_45 : am_code 122 45 = [.aload_n 0, .iload 4, .invokevirtual 145, .ifCond .eq (35)] := by unfold am_code; rw [kd_at_122]; rfl
theorem kc_122_54 : am_code 122 54 = [.aload_n 0, .getfield 48, .iload 4, .aload_n 0, .getfield 39, .invokevirtual 148, .lstore 5, .iload_n 1, .ifCond .eq (10)] := by unfold am_code; rw [kd_at_122]; rfl
theorem kc_122_73 : am_code 122 73 = [.lload 5, .lload_n 2, .lcmp, .ifCond .ge (9)] := by unfold am_code; rw [kd_at_122]; rfl
theorem kc_122_80 : am_code 122 80 = [.iload 4, .istore_n 1, .lload 5, .lstore_n 2] := by unfold am_code; rw [kd_at_122]; rfl
theorem kc_122_86 : am_code 122 86 = [.iinc 4 (1), .goto (-68)] := by unfold am_code; rw [kd_at_122]; rfl
theorem kc_122_92 : am_code 122 92 = [.iload_n 1, .ireturn] := by unfold am_code; rw [kd_at_122]; rfl
theorem kd_at_123 : am_kd 123 = kd_123 := rfl
theorem kc_123_0 : am_code 123 0 = [.aload_n 0, .getfield 42, .iconst (2), .if_icmp .ne (8)] := by unfold am_code; rw [kd_at_123]; rfl
theorem kc_123_8 : am_code 123 8 = [.bipush (21), .goto (4)] := by unfold am_code; rw [kd_at_123]; rfl
theorem kc_123_13 : am_code 123 13 = [.iconst (1)] := by unfold am_code; rw [kd_at_123]; rfl
theorem kc_123_14 : am_code 123 14 = [.ireturn] := by unfold am_code; rw [kd_at_123]; rfl
theorem kd_at_124 : am_kd 124 = kd_124 := rfl
theorem kc_124_0 : am_code 124 0 = [.aload_n 0, .getfield 45, .ireturn] := by unfold am_code; rw [kd_at_124]; rfl
theorem kd_at_125 : am_kd 125 = kd_125 := rfl
theorem kc_125_0 : am_code 125 0 = [.aload_n 0, .getfield 18, .iload_n 2, .laload, .ldc2_w 82, .lcmp, .ifCond .eq (38)] := by unfold am_code; rw [kd_at_125]; rfl
theorem kc_125_13 : am_code 125 13 = [.aload_n 0, .getfield 52, .iload_n 2, .invokevirtual 152, .aload_n 0, .getfield 52, .iload_n 1, .invokevirtual 125, .if_icmp .ne (19)] := by unfold am_code; rw [kd_at_125]; rfl
theorem kc_125_32 : am_code 125 32 = [.aload_n 0, .getfield 52, .iload_n 1, .iload_n 2, .invokevirtual 155, .ifCond .ne (7)] := by unfold am_code; rw [kd_at_125]; rfl
theorem kc_125_44 : am_code 125 44 = [.iconst (1), .goto (4)] := by unfold am_code; rw [kd_at_125]; rfl
theorem kc_125_48 : am_code 125 48 = [.iconst (0)] := by unfold am_code; rw [kd_at_125]; rfl
theorem kc_125_49 : am_code 125 49 = [.ireturn] := by unfold am_code; rw [kd_at_125]; rfl
theorem kd_at_126 : am_kd 126 = kd_126 := rfl
theorem kc_126_0 : am_code 126 0 = [.aload_n 0, .invokevirtual 158, .istore_n 1, .aload_n 0, .getfield 52, .invokevirtual 74, .iconst (1), .iadd, .iload_n 1, .imul, .istore_n 2, .aload_n 0, .getfield 12, .iload_n 2, .invokevirtual 161, .iconst (1), .istore_n 3] := by unfold am_code; rw [kd_at_126]; rfl
theorem kc_126_27 : am_code 126 27 = [.iload_n 3, .aload_n 0, .getfield 52, .invokevirtual 74, .if_icmp .gt (53)] := by unfold am_code; rw [kd_at_126]; rfl
theorem kc_126_38 : am_code 126 38 = [.iconst (0), .istore 4] := by unfold am_code; rw [kd_at_126]; rfl
theorem kc_126_41 : am_code 126 41 = [.iload 4, .iload_n 1, .if_icmp .ge (38)] := by unfold am_code; rw [kd_at_126]; rfl
theorem kc_126_47 : am_code 126 47 = [.aload_n 0, .getfield 52, .iload_n 3, .invokevirtual 125, .aload_n 0, .getfield 39, .if_icmp .ne (23)] := by unfold am_code; rw [kd_at_126]; rfl
theorem kc_126_62 : am_code 126 62 = [.aload_n 0, .getfield 12, .iload_n 3, .iload_n 1, .imul, .iload 4, .iadd, .lconst 0, .invokevirtual 164, .iinc 4 (1), .goto (-38)] := by unfold am_code; rw [kd_at_126]; rfl
theorem kc_126_82 : am_code 126 82 = [.iinc 3 (1), .goto (-58)] := by unfold am_code; rw [kd_at_126]; rfl
theorem kc_126_88 : am_code 126 88 = [.iconst (0), .istore_n 3] := by unfold am_code; rw [kd_at_126]; rfl
theorem kc_126_90 : am_code 126 90 = [.iload_n 3, .iload_n 2, .if_icmp .ge (54)] := by unfold am_code; rw [kd_at_126]; rfl
theorem kc_126_95 : am_code 126 95 = [.aload_n 0, .getfield 12, .invokevirtual 168, .istore 4, .iload 4, .ifCond .lt (12)] := by unfold am_code; rw [kd_at_126]; rfl
theorem kc_126_109 : am_code 126 109 = [.iload 4, .aload_n 0, .invokevirtual 100, .if_icmp .ne (4)] := by unfold am_code; rw [kd_at_126]; rfl
theorem kc_126_118 : am_code 126 118 = [.return_] := by unfold am_code; rw [kd_at_126]; rfl
theorem kc_126_119 : am_code 126 119 = [.aload_n 0, .iload 4, .iload_n 1, .idiv, .iload 4, .iload_n 1, .irem, .aload_n 0, .getfield 12, .iload 4, .invokevirtual 103, .invokevirtual 171, .iinc 3 (1), .goto (-53)] := by unfold am_code; rw [kd_at_126]; rfl
theorem kc_126_146 : am_code 126 146 = [.return_] := by unfold am_code; rw [kd_at_126]; rfl
theorem kd_at_127 : am_kd 127 = kd_127 := rfl
theorem kc_127_0 : am_code 127 0 = [.aload_n 0, .invokevirtual 158, .istore 5, .aload_n 0, .getfield 26, .aload_n 0, .getfield 52, .iload_n 1, .invokevirtual 125, .laload, .lstore 6, .iload_n 2, .ifCond .le (29)] := by unfold am_code; rw [kd_at_127]; rfl
theorem kc_127_25 : am_code 127 25 = [.lload 6, .lconst 0, .lcmp, .ifCond .le (22)] := by unfold am_code; rw [kd_at_127]; rfl
theorem kc_127_32 : am_code 127 32 = [.aload_n 0, .getfield 12, .iload_n 1, .iload 5, .imul, .iload_n 2, .iadd, .iconst (1), .isub, .lload_n 3, .lload 6, .ladd, .invokevirtual 164] := by unfold am_code; rw [kd_at_127]; rfl
theorem kc_127_51 : am_code 127 51 = [.iload_n 2, .aload_n 0, .getfield 22, .iload_n 1, .iaload, .iadd, .istore 8, .iload_n 1, .ifCond .eq (10)] := by unfold am_code; rw [kd_at_127]; rfl
theorem kc_127_65 : am_code 127 65 = [.iload 8, .iload 5, .if_icmp .lt (4)] := by unfold am_code; rw [kd_at_127]; rfl
theorem kc_127_72 : am_code 127 72 = [.return_] := by unfold am_code; rw [kd_at_127]; rfl
theorem kc_127_73 : am_code 127 73 = [.iconst (0), .istore 9] := by unfold am_code; rw [kd_at_127]; rfl
theorem kc_127_76 : am_code 127 76 = [.iload 9, .aload_n 0, .getfield 52, .invokevirtual 74, .if_icmp .gt (42)] := by unfold am_code; rw [kd_at_127]; rfl
theorem kc_127_88 : am_code 127 88 = [.aload_n 0, .iload 9, .iload_n 1, .invokevirtual 121, .ifCond .eq (26)] := by unfold am_code; rw [kd_at_127]; rfl
theorem kc_127_98 : am_code 127 98 = [.aload_n 0, .getfield 12, .iload 9, .iload 5, .imul, .iload 8, .iadd, .lload_n 3, .aload_n 0, .getfield 18, .iload_n 1, .laload, .ladd, .invokevirtual 164] := by unfold am_code; rw [kd_at_127]; rfl
theorem kc_127_121 : am_code 127 121 = [.iinc 9 (1), .goto (-48)] := by unfold am_code; rw [kd_at_127]; rfl
theorem kc_127_127 : am_code 127 127 = [.return_] := by unfold am_code; rw [kd_at_127]; rfl
theorem kd_at_128 : am_kd 128 = kd_128 := rfl
theorem kc_128_0 : am_code 128 0 = [.aload_n 0, .invokevirtual 112, .iconst (0), .istore 4, .iconst (0), .istore 5] := by unfold am_code; rw [kd_at_128]; rfl
theorem kc_128_10 : am_code 128 10 = [.iload 5, .sipush (2400), .if_icmp .ge (69)] := by unfold am_code; rw [kd_at_128]; rfl
theorem kc_128_18 : am_code 128 18 = [.aload_n 0, .getfield 52, .iload 4, .invokevirtual 125, .aload_n 0, .getfield 39, .if_icmp .eq (53)] := by unfold am_code; rw [kd_at_128]; rfl
theorem kc_128_34 : am_code 128 34 = [.aload_n 0, .aload_n 0, .getfield 52, .iload 4, .invokevirtual 125, .invokevirtual 128, .aload_n 0, .iload 4, .lload_n 2, .invokevirtual 175, .istore 6, .iload 6, .ifCond .ne (4)] := by unfold am_code; rw [kd_at_128]; rfl
theorem kc_128_61 : am_code 128 61 = [.return_] := by unfold am_code; rw [kd_at_128]; rfl
theorem kc_128_62 : am_code 128 62 = [.aload_n 0, .iload 6, .invokevirtual 131, .aload_n 1, .iload 6, .invokevirtual 179, .iload 6, .istore 4, .iinc 5 (1), .goto (-71)] := by unfold am_code; rw [kd_at_128]; rfl
theorem kc_128_84 : am_code 128 84 = [.return_] := by unfold am_code; rw [kd_at_128]; rfl
theorem kd_at_129 : am_kd 129 = kd_129 := rfl
theorem kc_129_0 : am_code 129 0 = [.iconst (1), .istore 4] := by unfold am_code; rw [kd_at_129]; rfl
theorem kc_129_3 : am_code 129 3 = [.iload 4, .aload_n 0, .getfield 52, .invokevirtual 74, .if_icmp .gt (32)] := by unfold am_code; rw [kd_at_129]; rfl
theorem kc_129_15 : am_code 129 15 = [.aload_n 0, .iload_n 1, .iload 4, .invokevirtual 121, .ifCond .eq (16)] := by unfold am_code; rw [kd_at_129]; rfl
theorem kc_129_25 : am_code 129 25 = [.aload_n 0, .iload 4, .lload_n 2, .invokevirtual 182, .ifCond .eq (6)] := by unfold am_code; rw [kd_at_129]; rfl
theorem kc_129_35 : am_code 129 35 = [.iload 4, .ireturn] := by unfold am_code; rw [kd_at_129]; rfl
theorem kc_129_38 : am_code 129 38 = [.iinc 4 (1), .goto (-38)] := by unfold am_code; rw [kd_at_129]; rfl
theorem kc_129_44 : am_code 129 44 = [.iconst (0), .ireturn] := by unfold am_code; rw [kd_at_129]; rfl
theorem kd_at_130 : am_kd 130 = kd_130 := rfl
theorem kc_130_0 : am_code 130 0 = [.aload_n 0, .invokevirtual 158, .istore 4, .aload_n 0, .getfield 22, .iload_n 1, .iaload, .istore 5] := by unfold am_code; rw [kd_at_130]; rfl
theorem kc_130_14 : am_code 130 14 = [.iload 5, .iload 4, .if_icmp .ge (56)] := by unfold am_code; rw [kd_at_130]; rfl
theorem kc_130_21 : am_code 130 21 = [.aload_n 0, .getfield 12, .iload_n 1, .iload 4, .imul, .iload 5, .iadd, .aload_n 0, .getfield 22, .iload_n 1, .iaload, .isub, .invokevirtual 103, .lstore 6, .aload_n 0, .getfield 32, .iload 5, .laload, .aload_n 0, .getfield 18, .iload_n 1, .laload, .ladd, .lload 6, .ladd, .lload_n 2, .lcmp, .ifCond .ne (5)] := by unfold am_code; rw [kd_at_130]; rfl
theorem kc_130_66 : am_code 130 66 = [.iconst (1), .ireturn] := by unfold am_code; rw [kd_at_130]; rfl
theorem kc_130_68 : am_code 130 68 = [.iinc 5 (1), .goto (-57)] := by unfold am_code; rw [kd_at_130]; rfl
theorem kc_130_74 : am_code 130 74 = [.iconst (0), .ireturn] := by unfold am_code; rw [kd_at_130]; rfl
theorem kd_at_131 : am_kd 131 = kd_131 := rfl
theorem kc_131_0 : am_code 131 0 = [.iconst (0), .istore_n 1] := by unfold am_code; rw [kd_at_131]; rfl
theorem kc_131_2 : am_code 131 2 = [.iload_n 1, .bipush (21), .if_icmp .ge (18)] := by unfold am_code; rw [kd_at_131]; rfl
theorem kc_131_8 : am_code 131 8 = [.aload_n 0, .getfield 32, .iload_n 1, .ldc2_w 106, .lastore, .iinc 1 (1), .goto (-18)] := by unfold am_code; rw [kd_at_131]; rfl
theorem kc_131_23 : am_code 131 23 = [.aload_n 0, .getfield 32, .aload_n 0, .getfield 45, .lconst 0, .lastore, .return_] := by unfold am_code; rw [kd_at_131]; rfl
theorem kd_at_132 : am_kd 132 = kd_132 := rfl
theorem kc_132_0 : am_code 132 0 = [.aload_n 0, .getfield 26, .iload_n 1, .laload, .lstore_n 2, .lload_n 2, .lconst 0, .lcmp, .ifCond .ne (4)] := by unfold am_code; rw [kd_at_132]; rfl
theorem kc_132_13 : am_code 132 13 = [.return_] := by unfold am_code; rw [kd_at_132]; rfl
theorem kc_132_14 : am_code 132 14 = [.iconst (0), .istore 4] := by unfold am_code; rw [kd_at_132]; rfl
theorem kc_132_17 : am_code 132 17 = [.iload 4, .bipush (20), .if_icmp .ge (39)] := by unfold am_code; rw [kd_at_132]; rfl
theorem kc_132_24 : am_code 132 24 = [.aload_n 0, .getfield 32, .iload 4, .iconst (1), .iadd, .aload_n 0, .getfield 32, .iload 4, .iconst (1), .iadd, .laload, .aload_n 0, .getfield 32, .iload 4, .laload, .lload_n 2, .ladd, .invokestatic 186, .lastore, .iinc 4 (1), .goto (-40)] := by unfold am_code; rw [kd_at_132]; rfl
theorem kc_132_60 : am_code 132 60 = [.return_] := by unfold am_code; rw [kd_at_132]; rfl
theorem kd_at_133 : am_kd 133 = kd_133 := rfl
theorem kc_133_0 : am_code 133 0 = [.iconst (0), .istore_n 2] := by unfold am_code; rw [kd_at_133]; rfl
theorem kc_133_2 : am_code 133 2 = [.iload_n 2, .bipush (21), .if_icmp .ge (62)] := by unfold am_code; rw [kd_at_133]; rfl
theorem kc_133_8 : am_code 133 8 = [.iload_n 2, .aload_n 0, .getfield 22, .iload_n 1, .iaload, .iadd, .istore_n 3, .aload_n 0, .getfield 32, .iload_n 2, .iload_n 3, .bipush (21), .if_icmp .ge (32)] := by unfold am_code; rw [kd_at_133]; rfl
theorem kc_133_28 : am_code 133 28 = [.aload_n 0, .getfield 32, .iload_n 3, .laload, .ldc2_w 106, .lcmp, .ifCond .ge (19)] := by unfold am_code; rw [kd_at_133]; rfl
theorem kc_133_41 : am_code 133 41 = [.aload_n 0, .getfield 32, .iload_n 3, .laload, .aload_n 0, .getfield 18, .iload_n 1, .laload, .ladd, .goto (6)] := by unfold am_code; rw [kd_at_133]; rfl
theorem kc_133_57 : am_code 133 57 = [.ldc2_w 106] := by unfold am_code; rw [kd_at_133]; rfl
theorem kc_133_60 : am_code 133 60 = [.lastore, .iinc 2 (1), .goto (-62)] := by unfold am_code; rw [kd_at_133]; rfl
theorem kc_133_67 : am_code 133 67 = [.return_] := by unfold am_code; rw [kd_at_133]; rfl
theorem kd_at_134 : am_kd 134 = kd_134 := rfl
theorem kc_134_0 : am_code 134 0 = [.ldc2_w 106, .lstore_n 1, .iconst (0), .istore_n 3] := by unfold am_code; rw [kd_at_134]; rfl
theorem kc_134_6 : am_code 134 6 = [.iload_n 3, .bipush (21), .if_icmp .ge (20)] := by unfold am_code; rw [kd_at_134]; rfl
theorem kc_134_12 : am_code 134 12 = [.lload_n 1, .aload_n 0, .getfield 32, .iload_n 3, .laload, .invokestatic 186, .lstore_n 1, .iinc 3 (1), .goto (-20)] := by unfold am_code; rw [kd_at_134]; rfl
theorem kc_134_29 : am_code 134 29 = [.lload_n 1, .lreturn] := by unfold am_code; rw [kd_at_134]; rfl
theorem kd_at_135 : am_kd 135 = kd_135 := rfl
theorem kc_135_0 : am_code 135 0 = [.aload_n 0, .getfield 29, .iconst (0), .aload_n 0, .aload_n 0, .getfield 35, .aload_n 0, .getfield 45, .invokevirtual 192, .iastore, .iconst (1), .istore_n 1] := by unfold am_code; rw [kd_at_135]; rfl
theorem kc_135_20 : am_code 135 20 = [.iload_n 1, .aload_n 0, .getfield 52, .invokevirtual 74, .if_icmp .gt (16)] := by unfold am_code; rw [kd_at_135]; rfl
theorem kc_135_31 : am_code 135 31 = [.aload_n 0, .getfield 29, .iload_n 1, .iconst (-1), .iastore, .iinc 1 (1), .goto (-21)] := by unfold am_code; rw [kd_at_135]; rfl
theorem kc_135_44 : am_code 135 44 = [.iconst (1), .istore_n 1, .iconst (0), .istore_n 2] := by unfold am_code; rw [kd_at_135]; rfl
theorem kc_135_48 : am_code 135 48 = [.iload_n 1, .ifCond .eq (56)] := by unfold am_code; rw [kd_at_135]; rfl
theorem kc_135_52 : am_code 135 52 = [.iload_n 2, .sipush (2400), .if_icmp .gt (49)] := by unfold am_code; rw [kd_at_135]; rfl
theorem kc_135_59 : am_code 135 59 = [.iconst (0), .istore_n 1, .iconst (0), .istore_n 3] := by unfold am_code; rw [kd_at_135]; rfl
theorem kc_135_63 : am_code 135 63 = [.iload_n 3, .aload_n 0, .getfield 52, .invokevirtual 74, .if_icmp .gt (28)] := by unfold am_code; rw [kd_at_135]; rfl
theorem kc_135_74 : am_code 135 74 = [.aload_n 0, .getfield 29, .iload_n 3, .iaload, .ifCond .lt (13)] := by unfold am_code; rw [kd_at_135]; rfl
theorem kc_135_83 : am_code 135 83 = [.aload_n 0, .iload_n 3, .invokevirtual 196, .ifCond .eq (5)] := by unfold am_code; rw [kd_at_135]; rfl
theorem kc_135_91 : am_code 135 91 = [.iconst (1), .istore_n 1] := by unfold am_code; rw [kd_at_135]; rfl
theorem kc_135_93 : am_code 135 93 = [.iinc 3 (1), .goto (-33)] := by unfold am_code; rw [kd_at_135]; rfl
theorem kc_135_99 : am_code 135 99 = [.iinc 2 (1), .goto (-54)] := by unfold am_code; rw [kd_at_135]; rfl
theorem kc_135_105 : am_code 135 105 = [.return_] := by unfold am_code; rw [kd_at_135]; rfl
theorem kd_at_136 : am_kd 136 = kd_136 := rfl
theorem kc_136_0 : am_code 136 0 = [.iconst (0), .istore_n 2, .iconst (1), .istore_n 3] := by unfold am_code; rw [kd_at_136]; rfl
theorem kc_136_4 : am_code 136 4 = [.iload_n 3, .aload_n 0, .getfield 52, .invokevirtual 74, .if_icmp .gt (81)] := by unfold am_code; rw [kd_at_136]; rfl
theorem kc_136_15 : am_code 136 15 = [.aload_n 0, .iload_n 1, .iload_n 3, .invokevirtual 121, .ifCond .eq (66)] := by unfold am_code; rw [kd_at_136]; rfl
theorem kc_136_24 : am_code 136 24 = [.aload_n 0, .getfield 29, .iload_n 1, .iaload, .aload_n 0, .getfield 22, .iload_n 3, .iaload, .if_icmp .lt (51)] := by unfold am_code; rw [kd_at_136]; rfl
theorem kc_136_39 : am_code 136 39 = [.aload_n 0, .aload_n 0, .getfield 52, .iload_n 3, .invokevirtual 125, .aload_n 0, .getfield 29, .iload_n 1, .iaload, .aload_n 0, .getfield 22, .iload_n 3, .iaload, .isub, .invokevirtual 192, .istore 4, .iload 4, .aload_n 0, .getfield 29, .iload_n 3, .iaload, .if_icmp .le (13)] := by unfold am_code; rw [kd_at_136]; rfl
theorem kc_136_77 : am_code 136 77 = [.aload_n 0, .getfield 29, .iload_n 3, .iload 4, .iastore, .iconst (1), .istore_n 2] := by unfold am_code; rw [kd_at_136]; rfl
theorem kc_136_87 : am_code 136 87 = [.iinc 3 (1), .goto (-86)] := by unfold am_code; rw [kd_at_136]; rfl
theorem kc_136_93 : am_code 136 93 = [.iload_n 2, .ireturn] := by unfold am_code; rw [kd_at_136]; rfl
theorem kd_at_137 : am_kd 137 = kd_137 := rfl
theorem kc_137_0 : am_code 137 0 = [.aload_n 0, .getfield 48, .iload_n 1, .invokevirtual 141, .ifCond .eq (8)] := by unfold am_code; rw [kd_at_137]; rfl
theorem kc_137_11 : am_code 137 11 = [.bipush (20), .goto (4)] := by unfold am_code; rw [kd_at_137]; rfl
theorem kc_137_16 : am_code 137 16 = [.iload_n 2] := by unfold am_code; rw [kd_at_137]; rfl
theorem kc_137_17 : am_code 137 17 = [.ireturn] := by unfold am_code; rw [kd_at_137]; rfl
theorem kd_at_138 : am_kd 138 = kd_138 := rfl
theorem kc_138_0 : am_code 138 0 = [.iconst (0), .istore_n 2] := by unfold am_code; rw [kd_at_138]; rfl
theorem kc_138_2 : am_code 138 2 = [.iload_n 2, .aload_n 0, .getfield 52, .invokevirtual 74, .if_icmp .gt (32)] := by unfold am_code; rw [kd_at_138]; rfl
theorem kc_138_13 : am_code 138 13 = [.aload_n 0, .getfield 29, .iload_n 2, .iaload, .ifCond .lt (17)] := by unfold am_code; rw [kd_at_138]; rfl
theorem kc_138_22 : am_code 138 22 = [.aload_n 0, .getfield 52, .iload_n 2, .invokevirtual 125, .iload_n 1, .if_icmp .ne (5)] := by unfold am_code; rw [kd_at_138]; rfl
theorem kc_138_34 : am_code 138 34 = [.iconst (1), .ireturn] := by unfold am_code; rw [kd_at_138]; rfl
theorem kc_138_36 : am_code 138 36 = [.iinc 2 (1), .goto (-37)] := by unfold am_code; rw [kd_at_138]; rfl
theorem kc_138_42 : am_code 138 42 = [.iconst (0), .ireturn] := by unfold am_code; rw [kd_at_138]; rfl
theorem kd_at_139 : am_kd 139 = kd_139 := rfl
theorem kc_139_0 : am_code 139 0 = [.aload 8, .iconst (0), .aload_n 0, .iload_n 1, .iload_n 2, .lload_n 3, .lload 5, .iload 7, .invokevirtual 7, .i2l, .lastore, .goto (7)] := by unfold am_code; rw [kd_at_139]; rfl
theorem kc_139_19 : am_code 139 19 = [.astore 9, .iconst (1), .ireturn] := by unfold am_code; rw [kd_at_139]; rfl
theorem kc_139_23 : am_code 139 23 = [.iconst (0), .ireturn] := by unfold am_code; rw [kd_at_139]; rfl
theorem kd_at_140 : am_kd 140 = kd_140 := rfl
theorem kc_140_0 : am_code 140 0 = [.new 8, .dup, .invokespecial 15, .astore_n 1, .new 16, .dup, .invokespecial 18, .astore_n 2, .iconst (1), .newarray .long, .astore_n 3, .iconst (0), .istore 4] := by unfold am_code; rw [kd_at_140]; rfl
theorem kc_140_23 : am_code 140 23 = [.iload 4, .aload_n 0, .arraylength, .bipush (8), .isub, .if_icmp .gt (1022)] := by unfold am_code; rw [kd_at_140]; rfl
theorem kc_140_33 : am_code 140 33 = [.aload_n 0, .iload 4, .iaload, .bipush (15), .iand, .tableswitch (1006) (0) (13) #[(72), (173), (345), (410), (479), (572), (597), (611), (724), (837), (894), (931), (956), (969)]] := by unfold am_code; rw [kd_at_140]; rfl
theorem kc_140_112 : am_code 140 112 = [.aload_n 1, .aload_n 0, .iload 4, .iconst (1), .iadd, .iaload, .i2l, .bipush (32), .lshl, .aload_n 0, .iload 4, .iconst (2), .iadd, .iaload, .i2l, .ldc2_w 19, .land, .lor, .aload_n 0, .iload 4, .iconst (3), .iadd, .iaload, .i2l, .bipush (32), .lshl, .aload_n 0, .iload 4, .iconst (4), .iadd, .iaload, .i2l, .ldc2_w 19, .land, .lor, .invokevirtual 21, .aload_n 2, .aload_n 0, .iload 4, .iconst (1), .iadd, .iaload, .i2l, .bipush (32), .lshl, .aload_n 0, .iload 4, .iconst (2), .iadd, .iaload, .i2l, .ldc2_w 19, .land, .lor, .aload_n 0, .iload 4, .iconst (3), .iadd, .iaload, .i2l, .bipush (32), .lshl, .aload_n 0, .iload 4, .iconst (4), .iadd, .iaload, .i2l, .ldc2_w 19, .land, .lor, .invokevirtual 25, .if_icmp .eq (838)] := by unfold am_code; rw [kd_at_140]; rfl
theorem kc_140_211 : am_code 140 211 = [.iconst (0), .ireturn] := by unfold am_code; rw [kd_at_140]; rfl
theorem kc_140_213 : am_code 140 213 = [.aload_n 1, .aload_n 0, .iload 4, .iconst (1), .iadd, .iaload, .aload_n 0, .iload 4, .iconst (2), .iadd, .iaload, .aload_n 0, .iload 4, .iconst (3), .iadd, .iaload, .i2l, .bipush (32), .lshl, .aload_n 0, .iload 4, .iconst (4), .iadd, .iaload, .i2l, .ldc2_w 19, .land, .lor, .aload_n 0, .iload 4, .iconst (5), .iadd, .iaload, .i2l, .bipush (32), .lshl, .aload_n 0, .iload 4, .bipush (6), .iadd, .iaload, .i2l, .ldc2_w 19, .land, .lor, .aload_n 0, .iload 4, .bipush (7), .iadd, .iaload, .aload_n 3, .invokestatic 26, .istore 5, .aload_n 2, .aload_n 0, .iload 4, .iconst (1), .iadd, .iaload, .aload_n 0, .iload 4, .iconst (2), .iadd, .iaload, .aload_n 0, .iload 4, .iconst (3), .iadd, .iaload, .i2l, .bipush (32), .lshl, .aload_n 0, .iload 4, .iconst (4), .iadd, .iaload, .i2l, .ldc2_w 19, .land, .lor, .aload_n 0, .iload 4, .iconst (5), .iadd, .iaload, .i2l, .bipush (32), .lshl, .aload_n 0, .iload 4, .bipush (6), .iadd, .iaload, .i2l, .ldc2_w 19, .land, .lor, .aload_n 0, .iload 4, .bipush (7), .iadd, .iaload, .invokevirtual 31, .istore 6, .aload_n 2, .invokevirtual 32, .iload 5, .if_icmp .eq (5)] := by unfold am_code; rw [kd_at_140]; rfl
theorem kc_140_363 : am_code 140 363 = [.iconst (0), .ireturn] := by unfold am_code; rw [kd_at_140]; rfl
theorem kc_140_365 : am_code 140 365 = [.iload 5, .ifCond .ne (15)] := by unfold am_code; rw [kd_at_140]; rfl
theorem kc_140_370 : am_code 140 370 = [.aload_n 3, .iconst (0), .laload, .iload 6, .i2l, .lcmp, .ifCond .eq (5)] := by unfold am_code; rw [kd_at_140]; rfl
theorem kc_140_380 : am_code 140 380 = [.iconst (0), .ireturn] := by unfold am_code; rw [kd_at_140]; rfl
theorem kc_140_382 : am_code 140 382 = [.goto (664)] := by unfold am_code; rw [kd_at_140]; rfl
theorem kc_140_385 : am_code 140 385 = [.aload_n 1, .aload_n 0, .iload 4, .iconst (1), .iadd, .iaload, .aload_n 0, .iload 4, .iconst (2), .iadd, .iaload, .aload_n 0, .iload 4, .iconst (3), .iadd, .iaload, .ifCond .eq (7)] := by unfold am_code; rw [kd_at_140]; rfl
theorem kc_140_407 : am_code 140 407 = [.iconst (1), .goto (4)] := by unfold am_code; rw [kd_at_140]; rfl
theorem kc_140_411 : am_code 140 411 = [.iconst (0)] := by unfold am_code; rw [kd_at_140]; rfl
theorem kc_140_412 : am_code 140 412 = [.invokevirtual 36, .aload_n 2, .aload_n 0, .iload 4, .iconst (1), .iadd, .iaload, .aload_n 0, .iload 4, .iconst (2), .iadd, .iaload, .aload_n 0, .iload 4, .iconst (3), .iadd, .iaload, .ifCond .eq (7)] := by unfold am_code; rw [kd_at_140]; rfl
theorem kc_140_437 : am_code 140 437 = [.iconst (1), .goto (4)] := by unfold am_code; rw [kd_at_140]; rfl
theorem kc_140_441 : am_code 140 441 = [.iconst (0)] := by unfold am_code; rw [kd_at_140]; rfl
theorem kc_140_442 : am_code 140 442 = [.invokevirtual 40, .if_icmp .eq (601)] := by unfold am_code; rw [kd_at_140]; rfl
theorem kc_140_448 : am_code 140 448 = [.iconst (0), .ireturn] := by unfold am_code; rw [kd_at_140]; rfl
theorem kc_140_450 : am_code 140 450 = [.aload_n 1, .aload_n 0, .iload 4, .iconst (1), .iadd, .iaload, .aload_n 0, .iload 4, .iconst (2), .iadd, .iaload, .i2l, .bipush (32), .lshl, .aload_n 0, .iload 4, .iconst (3), .iadd, .iaload, .i2l, .ldc2_w 19, .land, .lor, .invokevirtual 41, .aload_n 2, .aload_n 0, .iload 4, .iconst (1), .iadd, .iaload, .aload_n 0, .iload 4, .iconst (2), .iadd, .iaload, .i2l, .bipush (32), .lshl, .aload_n 0, .iload 4, .iconst (3), .iadd, .iaload, .i2l, .ldc2_w 19, .land, .lor, .invokevirtual 45, .if_icmp .eq (532)] := by unfold am_code; rw [kd_at_140]; rfl
theorem kc_140_517 : am_code 140 517 = [.iconst (0), .ireturn] := by unfold am_code; rw [kd_at_140]; rfl
theorem kc_140_519 : am_code 140 519 = [.aload_n 1, .aload_n 0, .iload 4, .iconst (1), .iadd, .iaload, .aload_n 0, .iload 4, .iconst (2), .iadd, .iaload, .aload_n 0, .iload 4, .iconst (3), .iadd, .iaload, .aload_n 0, .iload 4, .iconst (4), .iadd, .iaload, .i2l, .bipush (32), .lshl, .aload_n 0, .iload 4, .iconst (5), .iadd, .iaload, .i2l, .ldc2_w 19, .land, .lor, .invokevirtual 46, .aload_n 2, .aload_n 0, .iload 4, .iconst (1), .iadd, .iaload, .aload_n 0, .iload 4, .iconst (2), .iadd, .iaload, .aload_n 0, .iload 4, .iconst (3), .iadd, .iaload, .aload_n 0, .iload 4, .iconst (4), .iadd, .iaload, .i2l, .bipush (32), .lshl, .aload_n 0, .iload 4, .iconst (5), .iadd, .iaload, .i2l, .ldc2_w 19, .land, .lor, .invokevirtual 50, .if_icmp .eq (439)] := by unfold am_code; rw [kd_at_140]; rfl
theorem kc_140_610 : am_code 140 610 = [.iconst (0), .ireturn] := by unfold am_code; rw [kd_at_140]; rfl
theorem kc_140_612 : am_code 140 612 = [.aload_n 1, .aload_n 0, .iload 4, .iconst (1), .iadd, .iaload, .invokevirtual 51, .aload_n 2, .aload_n 0, .iload 4, .iconst (1), .iadd, .iaload, .invokevirtual 55, .if_icmp .eq (414)] := by unfold am_code; rw [kd_at_140]; rfl
theorem kc_140_635 : am_code 140 635 = [.iconst (0), .ireturn] := by unfold am_code; rw [kd_at_140]; rfl
theorem kc_140_637 : am_code 140 637 = [.aload_n 1, .invokevirtual 56, .aload_n 2, .invokevirtual 60, .lcmp, .ifCond .eq (400)] := by unfold am_code; rw [kd_at_140]; rfl
theorem kc_140_649 : am_code 140 649 = [.iconst (0), .ireturn] := by unfold am_code; rw [kd_at_140]; rfl
theorem kc_140_651 : am_code 140 651 = [.aload_n 1, .aload_n 0, .iload 4, .iconst (1), .iadd, .iaload, .i2l, .bipush (32), .lshl, .aload_n 0, .iload 4, .iconst (2), .iadd, .iaload, .i2l, .ldc2_w 19, .land, .lor, .aload_n 0, .iload 4, .iconst (3), .iadd, .iaload, .i2l, .bipush (32), .lshl, .aload_n 0, .iload 4, .iconst (4), .iadd, .iaload, .i2l, .ldc2_w 19, .land, .lor, .aload_n 0, .iload 4, .iconst (5), .iadd, .iaload, .invokevirtual 61, .aload_n 2, .aload_n 0, .iload 4, .iconst (1), .iadd, .iaload, .i2l, .bipush (32), .lshl, .aload_n 0, .iload 4, .iconst (2), .iadd, .iaload, .i2l, .ldc2_w 19, .land, .lor, .aload_n 0, .iload 4, .iconst (3), .iadd, .iaload, .i2l, .bipush (32), .lshl, .aload_n 0, .iload 4, .iconst (4), .iadd, .iaload, .i2l, .ldc2_w 19, .land, .lor, .aload_n 0, .iload 4, .iconst (5), .iadd, .iaload, .invokevirtual 65, .if_icmp .eq (287)] := by unfold am_code; rw [kd_at_140]; rfl
theorem kc_140_762 : am_code 140 762 = [.iconst (0), .ireturn] := by unfold am_code; rw [kd_at_140]; rfl
theorem kc_140_764 : am_code 140 764 = [.aload_n 1, .aload_n 0, .iload 4, .iconst (1), .iadd, .iaload, .aload_n 0, .iload 4, .iconst (2), .iadd, .iaload, .i2l, .bipush (32), .lshl, .aload_n 0, .iload 4, .iconst (3), .iadd, .iaload, .i2l, .ldc2_w 19, .land, .lor, .aload_n 0, .iload 4, .iconst (4), .iadd, .iaload, .i2l, .bipush (32), .lshl, .aload_n 0, .iload 4, .iconst (5), .iadd, .iaload, .i2l, .ldc2_w 19, .land, .lor, .invokevirtual 66, .aload_n 2, .aload_n 0, .iload 4, .iconst (1), .iadd, .iaload, .aload_n 0, .iload 4, .iconst (2), .iadd, .iaload, .i2l, .bipush (32), .lshl, .aload_n 0, .iload 4, .iconst (3), .iadd, .iaload, .i2l, .ldc2_w 19, .land, .lor, .aload_n 0, .iload 4, .iconst (4), .iadd, .iaload, .i2l, .bipush (32), .lshl, .aload_n 0, .iload 4, .iconst (5), .iadd, .iaload, .i2l, .ldc2_w 19, .land, .lor, .invokevirtual 70, .if_icmp .eq (174)] := by unfold am_code; rw [kd_at_140]; rfl
theorem kc_140_875 : am_code 140 875 = [.iconst (0), .ireturn] := by unfold am_code; rw [kd_at_140]; rfl
theorem kc_140_877 : am_code 140 877 = [.aload_n 1, .aload_n 0, .iload 4, .iconst (1), .iadd, .iaload, .i2l, .bipush (32), .lshl, .aload_n 0, .iload 4, .iconst (2), .iadd, .iaload, .i2l, .ldc2_w 19, .land, .lor, .invokevirtual 71, .aload_n 2, .aload_n 0, .iload 4, .iconst (1), .iadd, .iaload, .i2l, .bipush (32), .lshl, .aload_n 0, .iload 4, .iconst (2), .iadd, .iaload, .i2l, .ldc2_w 19, .land, .lor, .invokevirtual 75, .if_icmp .eq (117)] := by unfold am_code; rw [kd_at_140]; rfl
theorem kc_140_932 : am_code 140 932 = [.iconst (0), .ireturn] := by unfold am_code; rw [kd_at_140]; rfl
theorem kc_140_934 : am_code 140 934 = [.aload_n 1, .aload_n 0, .iload 4, .iconst (1), .iadd, .iaload, .aload_n 0, .iload 4, .iconst (2), .iadd, .iaload, .invokevirtual 76, .aload_n 2, .aload_n 0, .iload 4, .iconst (1), .iadd, .iaload, .aload_n 0, .iload 4, .iconst (2), .iadd, .iaload, .invokevirtual 80, .if_icmp .eq (80)] := by unfold am_code; rw [kd_at_140]; rfl
theorem kc_140_969 : am_code 140 969 = [.iconst (0), .ireturn] := by unfold am_code; rw [kd_at_140]; rfl
theorem kc_140_971 : am_code 140 971 = [.aload_n 1, .aload_n 0, .iload 4, .iconst (1), .iadd, .iaload, .invokevirtual 81, .aload_n 2, .aload_n 0, .iload 4, .iconst (1), .iadd, .iaload, .invokevirtual 84, .if_icmp .eq (55)] := by unfold am_code; rw [kd_at_140]; rfl
theorem kc_140_994 : am_code 140 994 = [.iconst (0), .ireturn] := by unfold am_code; rw [kd_at_140]; rfl
theorem kc_140_996 : am_code 140 996 = [.aload_n 1, .invokevirtual 85, .aload_n 2, .invokevirtual 88, .if_icmp .eq (42)] := by unfold am_code; rw [kd_at_140]; rfl
theorem kc_140_1007 : am_code 140 1007 = [.iconst (0), .ireturn] := by unfold am_code; rw [kd_at_140]; rfl
theorem kc_140_1009 : am_code 140 1009 = [.aload_n 1, .aload_n 0, .iload 4, .iconst (1), .iadd, .iaload, .aload_n 0, .iload 4, .iconst (2), .iadd, .iaload, .invokevirtual 89, .aload_n 2, .aload_n 0, .iload 4, .iconst (1), .iadd, .iaload, .aload_n 0, .iload 4, .iconst (2), .iadd, .iaload, .invokevirtual 92, .if_icmp .eq (5)] := by unfold am_code; rw [kd_at_140]; rfl
theorem kc_140_1044 : am_code 140 1044 = [.iconst (0), .ireturn] := by unfold am_code; rw [kd_at_140]; rfl
theorem kc_140_1046 : am_code 140 1046 = [.iinc 4 (8), .goto (-1026)] := by unfold am_code; rw [kd_at_140]; rfl
theorem kc_140_1052 : am_code 140 1052 = [.iconst (1), .ireturn] := by unfold am_code; rw [kd_at_140]; rfl
end
section
/-! RULES: the abstract machine run instruction by instruction, the goal first (printed by wip/gen/rules.py) -/
section APR
variable {j : Nat} {C : am_C} {Q : Option Value → am_H → Prop} {X : am_X} {r : List Jvm.ClassFile.Instr} {pc : Nat} {ls : am_L} {st : List Value} {h : am_H} {u : am_U}
theorem ap_iconst {n : Int} {v : Int32} (e : Int32.ofInt n = v) (K : am_run j C Q X r (pc + 1) (ls, .int v :: st, h, u))  : am_run j C Q X (.iconst n :: r) pc (ls, st, h, u) := by subst e; exact ⟨trivial, K⟩
theorem ap_bipush {n : Int} {v : Int32} (e : (Int8.ofInt n).toInt32 = v) (K : am_run j C Q X r (pc + 2) (ls, .int v :: st, h, u))  : am_run j C Q X (.bipush n :: r) pc (ls, st, h, u) := by subst e; exact ⟨trivial, K⟩
theorem ap_sipush {n : Int} {v : Int32} (e : (Int16.ofInt n).toInt32 = v) (K : am_run j C Q X r (pc + 3) (ls, .int v :: st, h, u))  : am_run j C Q X (.sipush n :: r) pc (ls, st, h, u) := by subst e; exact ⟨trivial, K⟩
theorem ap_lconst {n : Fin 2}  (K : am_run j C Q X r (pc + 1) (ls, .long (Int64.ofNat (n : Nat)) :: st, h, u))  : am_run j C Q X (.lconst n :: r) pc (ls, st, h, u) := ⟨trivial, K⟩
theorem ap_ldc2 {x : Nat} {v : Int64} {o : Nat} (eo : am_ow j = o) (e : am_kL o x = some v) (K : am_run j C Q X r (pc + 3) (ls, .long v :: st, h, u))  : am_run j C Q X (.ldc2_w x :: r) pc (ls, st, h, u) := by show am_ev _ _ _ _ _ (am_sem _ _ _ _ _ _ _); simp only [am_sem, eo, e]; exact ⟨trivial, K⟩
theorem ap_iload_n {k : Fin 4} {x : Int32} (e : am_lk ls k = some (.int x)) (K : am_run j C Q X r (pc + 1) (ls, .int x :: st, h, u))  : am_run j C Q X (.iload_n k :: r) pc (ls, st, h, u) := by show am_ev _ _ _ _ _ (am_sem _ _ _ _ _ _ _); simp only [am_sem, e]; exact ⟨trivial, K⟩
theorem ap_iload {k : Nat} {x : Int32} (e : am_lk ls k = some (.int x)) (K : am_run j C Q X r (pc + 2) (ls, .int x :: st, h, u))  : am_run j C Q X (.iload k :: r) pc (ls, st, h, u) := by show am_ev _ _ _ _ _ (am_sem _ _ _ _ _ _ _); simp only [am_sem, e]; exact ⟨trivial, K⟩
theorem ap_lload_n {k : Fin 4} {x : Int64} (e : am_lk ls k = some (.long x)) (K : am_run j C Q X r (pc + 1) (ls, .long x :: st, h, u))  : am_run j C Q X (.lload_n k :: r) pc (ls, st, h, u) := by show am_ev _ _ _ _ _ (am_sem _ _ _ _ _ _ _); simp only [am_sem, e]; exact ⟨trivial, K⟩
theorem ap_lload {k : Nat} {x : Int64} (e : am_lk ls k = some (.long x)) (K : am_run j C Q X r (pc + 2) (ls, .long x :: st, h, u))  : am_run j C Q X (.lload k :: r) pc (ls, st, h, u) := by show am_ev _ _ _ _ _ (am_sem _ _ _ _ _ _ _); simp only [am_sem, e]; exact ⟨trivial, K⟩
theorem ap_aload_n {k : Fin 4} {x : Nat} (e : am_lk ls k = some (.ref x)) (K : am_run j C Q X r (pc + 1) (ls, .ref x :: st, h, u))  : am_run j C Q X (.aload_n k :: r) pc (ls, st, h, u) := by show am_ev _ _ _ _ _ (am_sem _ _ _ _ _ _ _); simp only [am_sem, e]; exact ⟨trivial, K⟩
theorem ap_aload {k : Nat} {x : Nat} (e : am_lk ls k = some (.ref x)) (K : am_run j C Q X r (pc + 2) (ls, .ref x :: st, h, u))  : am_run j C Q X (.aload k :: r) pc (ls, st, h, u) := by show am_ev _ _ _ _ _ (am_sem _ _ _ _ _ _ _); simp only [am_sem, e]; exact ⟨trivial, K⟩
theorem ap_istore_n {k : Fin 4} {x : Int32} {ls' : am_L} (e : am_s1 ls k (.int x) = ls') (K : am_run j C Q X r (pc + 1) (ls', st, h, u))  : am_run j C Q X (.istore_n k :: r) pc (ls, .int x :: st, h, u) := by subst e; exact ⟨trivial, K⟩
theorem ap_istore {k : Nat} {x : Int32} {ls' : am_L} (e : am_s1 ls k (.int x) = ls') (K : am_run j C Q X r (pc + 2) (ls', st, h, u))  : am_run j C Q X (.istore k :: r) pc (ls, .int x :: st, h, u) := by subst e; exact ⟨trivial, K⟩
theorem ap_lstore_n {k : Fin 4} {x : Int64} {ls' : am_L} (e : am_s2 ls k (.long x) = ls') (K : am_run j C Q X r (pc + 1) (ls', st, h, u))  : am_run j C Q X (.lstore_n k :: r) pc (ls, .long x :: st, h, u) := by subst e; exact ⟨trivial, K⟩
theorem ap_lstore {k : Nat} {x : Int64} {ls' : am_L} (e : am_s2 ls k (.long x) = ls') (K : am_run j C Q X r (pc + 2) (ls', st, h, u))  : am_run j C Q X (.lstore k :: r) pc (ls, .long x :: st, h, u) := by subst e; exact ⟨trivial, K⟩
theorem ap_astore_n {k : Fin 4} {x : Nat} {ls' : am_L} (e : am_s1 ls k (.ref x) = ls') (K : am_run j C Q X r (pc + 1) (ls', st, h, u))  : am_run j C Q X (.astore_n k :: r) pc (ls, .ref x :: st, h, u) := by subst e; exact ⟨trivial, K⟩
theorem ap_astore {k : Nat} {x : Nat} {ls' : am_L} (e : am_s1 ls k (.ref x) = ls') (K : am_run j C Q X r (pc + 2) (ls', st, h, u))  : am_run j C Q X (.astore k :: r) pc (ls, .ref x :: st, h, u) := by subst e; exact ⟨trivial, K⟩
theorem ap_iinc {k : Nat} {n : Int} {x : Int32} {ls' : am_L} (e : am_lk ls k = some (.int x)) (e' : am_s1 ls k (.int (x + Int32.ofInt n)) = ls') (K : am_run j C Q X r (pc + 3) (ls', st, h, u))  : am_run j C Q X (.iinc k n :: r) pc (ls, st, h, u) := by subst e'; show am_ev _ _ _ _ _ (am_sem _ _ _ _ _ _ _); simp only [am_sem, e]; exact ⟨trivial, K⟩
theorem ap_iadd {x y : Int32}  (K : am_run j C Q X r (pc + 1) (ls, .int (x + y) :: st, h, u))  : am_run j C Q X (.iadd :: r) pc (ls, .int y :: .int x :: st, h, u) := ⟨trivial, K⟩
theorem ap_isub {x y : Int32}  (K : am_run j C Q X r (pc + 1) (ls, .int (x - y) :: st, h, u))  : am_run j C Q X (.isub :: r) pc (ls, .int y :: .int x :: st, h, u) := ⟨trivial, K⟩
theorem ap_imul {x y : Int32}  (K : am_run j C Q X r (pc + 1) (ls, .int (x * y) :: st, h, u))  : am_run j C Q X (.imul :: r) pc (ls, .int y :: .int x :: st, h, u) := ⟨trivial, K⟩
theorem ap_iand {x y : Int32}  (K : am_run j C Q X r (pc + 1) (ls, .int (x &&& y) :: st, h, u))  : am_run j C Q X (.iand :: r) pc (ls, .int y :: .int x :: st, h, u) := ⟨trivial, K⟩
theorem ap_ior {x y : Int32}  (K : am_run j C Q X r (pc + 1) (ls, .int (x ||| y) :: st, h, u))  : am_run j C Q X (.ior :: r) pc (ls, .int y :: .int x :: st, h, u) := ⟨trivial, K⟩
theorem ap_ishl {x y : Int32}  (K : am_run j C Q X r (pc + 1) (ls, .int (x <<< (y &&& 31)) :: st, h, u))  : am_run j C Q X (.ishl :: r) pc (ls, .int y :: .int x :: st, h, u) := ⟨trivial, K⟩
theorem ap_ishr {x y : Int32}  (K : am_run j C Q X r (pc + 1) (ls, .int (x >>> (y &&& 31)) :: st, h, u))  : am_run j C Q X (.ishr :: r) pc (ls, .int y :: .int x :: st, h, u) := ⟨trivial, K⟩
theorem ap_ladd {x y : Int64}  (K : am_run j C Q X r (pc + 1) (ls, .long (x + y) :: st, h, u))  : am_run j C Q X (.ladd :: r) pc (ls, .long y :: .long x :: st, h, u) := ⟨trivial, K⟩
theorem ap_lsub {x y : Int64}  (K : am_run j C Q X r (pc + 1) (ls, .long (x - y) :: st, h, u))  : am_run j C Q X (.lsub :: r) pc (ls, .long y :: .long x :: st, h, u) := ⟨trivial, K⟩
theorem ap_lmul {x y : Int64}  (K : am_run j C Q X r (pc + 1) (ls, .long (x * y) :: st, h, u))  : am_run j C Q X (.lmul :: r) pc (ls, .long y :: .long x :: st, h, u) := ⟨trivial, K⟩
theorem ap_land {x y : Int64}  (K : am_run j C Q X r (pc + 1) (ls, .long (x &&& y) :: st, h, u))  : am_run j C Q X (.land :: r) pc (ls, .long y :: .long x :: st, h, u) := ⟨trivial, K⟩
theorem ap_lor {x y : Int64}  (K : am_run j C Q X r (pc + 1) (ls, .long (x ||| y) :: st, h, u))  : am_run j C Q X (.lor :: r) pc (ls, .long y :: .long x :: st, h, u) := ⟨trivial, K⟩
theorem ap_lxor {x y : Int64}  (K : am_run j C Q X r (pc + 1) (ls, .long (x ^^^ y) :: st, h, u))  : am_run j C Q X (.lxor :: r) pc (ls, .long y :: .long x :: st, h, u) := ⟨trivial, K⟩
theorem ap_ineg {x : Int32}  (K : am_run j C Q X r (pc + 1) (ls, .int (-x) :: st, h, u))  : am_run j C Q X (.ineg :: r) pc (ls, .int x :: st, h, u) := ⟨trivial, K⟩
theorem ap_lneg {x : Int64}  (K : am_run j C Q X r (pc + 1) (ls, .long (-x) :: st, h, u))  : am_run j C Q X (.lneg :: r) pc (ls, .long x :: st, h, u) := ⟨trivial, K⟩
theorem ap_i2l {x : Int32}  (K : am_run j C Q X r (pc + 1) (ls, .long x.toInt64 :: st, h, u))  : am_run j C Q X (.i2l :: r) pc (ls, .int x :: st, h, u) := ⟨trivial, K⟩
theorem ap_l2i {x : Int64}  (K : am_run j C Q X r (pc + 1) (ls, .int x.toInt32 :: st, h, u))  : am_run j C Q X (.l2i :: r) pc (ls, .long x :: st, h, u) := ⟨trivial, K⟩
theorem ap_lushr {x : Int64} {y : Int32}  (K : am_run j C Q X r (pc + 1) (ls, .long (x.toUInt64 >>> (y.toInt64.toUInt64 &&& Int64.toUInt64 63)).toInt64 :: st, h, u))  : am_run j C Q X (.lushr :: r) pc (ls, .int y :: .long x :: st, h, u) := ⟨trivial, K⟩
theorem ap_lshl {x : Int64} {y : Int32}  (K : am_run j C Q X r (pc + 1) (ls, .long (x <<< (y.toInt64 &&& 63)) :: st, h, u))  : am_run j C Q X (.lshl :: r) pc (ls, .int y :: .long x :: st, h, u) := ⟨trivial, K⟩
theorem ap_lcmp {x y : Int64}  (K : am_run j C Q X r (pc + 1) (ls, .int (lg_cmp x y) :: st, h, u))  : am_run j C Q X (.lcmp :: r) pc (ls, .long y :: .long x :: st, h, u) := ⟨trivial, K⟩
theorem ap_dup {v : Value} (e : v.category = 1) (K : am_run j C Q X r (pc + 1) (ls, v :: v :: st, h, u))  : am_run j C Q X (.dup :: r) pc (ls, v :: st, h, u) := ⟨e, K⟩
theorem ap_dup2 {v w : Value} (e : v.category = 1) (e2 : w.category = 1) (K : am_run j C Q X r (pc + 1) (ls, v :: w :: v :: w :: st, h, u))  : am_run j C Q X (.dup2 :: r) pc (ls, v :: w :: st, h, u) := ⟨⟨e, e2⟩, K⟩
theorem am_fv0 {c k a : Nat} (e : am_ft c k = 0) : am_fv h c k a = .int (h.2.2.1 a k) := by simp only [am_fv, e]
theorem am_fv1 {c k a : Nat} (e : am_ft c k = 1) : am_fv h c k a = .int (h.2.2.1 a k) := by simp only [am_fv, e]
theorem am_fv2 {c k a : Nat} (e : am_ft c k = 2) : am_fv h c k a = .long (h.2.2.2.1 a k) := by simp only [am_fv, e]
theorem am_fv3 {c k a b : Nat} (e : am_ft c k = 3) (e' : h.2.2.2.2 a k = b + 1) : am_fv h c k a = .ref b := by simp only [am_fv, e, e', am_rv]
theorem ap_getI {x c k a : Nat} {o : Nat} (eo : am_ow j = o) (e1 : am_rf o x = some (c, k)) (e2 : am_ty h a = some (c + 3)) (e3 : am_ft c k = 0) (K : am_run j C Q X r (pc + 3) (ls, .int (h.2.2.1 a k) :: st, h, u))  : am_run j C Q X (.getfield x :: r) pc (ls, .ref a :: st, h, u) := by show am_ev _ _ _ _ _ (am_sem _ _ _ _ _ _ _); simp only [am_sem, eo, e1]; exact ⟨e2, by rw [am_fv0 e3]; exact K⟩
theorem ap_getZ {x c k a : Nat} {o : Nat} (eo : am_ow j = o) (e1 : am_rf o x = some (c, k)) (e2 : am_ty h a = some (c + 3)) (e3 : am_ft c k = 1) (K : am_run j C Q X r (pc + 3) (ls, .int (h.2.2.1 a k) :: st, h, u))  : am_run j C Q X (.getfield x :: r) pc (ls, .ref a :: st, h, u) := by show am_ev _ _ _ _ _ (am_sem _ _ _ _ _ _ _); simp only [am_sem, eo, e1]; exact ⟨e2, by rw [am_fv1 e3]; exact K⟩
theorem ap_getJ {x c k a : Nat} {o : Nat} (eo : am_ow j = o) (e1 : am_rf o x = some (c, k)) (e2 : am_ty h a = some (c + 3)) (e3 : am_ft c k = 2) (K : am_run j C Q X r (pc + 3) (ls, .long (h.2.2.2.1 a k) :: st, h, u))  : am_run j C Q X (.getfield x :: r) pc (ls, .ref a :: st, h, u) := by show am_ev _ _ _ _ _ (am_sem _ _ _ _ _ _ _); simp only [am_sem, eo, e1]; exact ⟨e2, by rw [am_fv2 e3]; exact K⟩
theorem ap_getR {x c k a b : Nat} {o : Nat} (eo : am_ow j = o) (e1 : am_rf o x = some (c, k)) (e2 : am_ty h a = some (c + 3)) (e3 : am_ft c k = 3) (e4 : h.2.2.2.2 a k = b + 1) (K : am_run j C Q X r (pc + 3) (ls, .ref b :: st, h, u))  : am_run j C Q X (.getfield x :: r) pc (ls, .ref a :: st, h, u) := by show am_ev _ _ _ _ _ (am_sem _ _ _ _ _ _ _); simp only [am_sem, eo, e1]; exact ⟨e2, by rw [am_fv3 e3 e4]; exact K⟩
theorem ap_putI {x c k a : Nat} {v : Int32} {o : Nat} (eo : am_ow j = o) (e1 : am_rf o x = some (c, k)) (e2 : am_ty h a = some (c + 3)) (e3 : am_ft c k = 0) (e4 : (!am_ff c k || (decide (o = c) && am_in j)) = true)  (K : am_run j C Q X r (pc + 3) (ls, st, am_pi h a k v, u))  : am_run j C Q X (.putfield x :: r) pc (ls, .int v :: .ref a :: st, h, u) := by show am_ev _ _ _ _ _ (am_sem _ _ _ _ _ _ _); simp only [am_sem, eo, e1, am_av, am_fp, e3]; refine ⟨⟨e2, fun hf => ?_, trivial⟩, K⟩; rw [hf] at e4; simpa using e4
theorem ap_putZ {x c k a : Nat} {v : Int32} {o : Nat} (eo : am_ow j = o) (e1 : am_rf o x = some (c, k)) (e2 : am_ty h a = some (c + 3)) (e3 : am_ft c k = 1) (e4 : (!am_ff c k || (decide (o = c) && am_in j)) = true)  (K : am_run j C Q X r (pc + 3) (ls, st, am_pi h a k v, u)) (e5 : v = 0 ∨ v = 1) : am_run j C Q X (.putfield x :: r) pc (ls, .int v :: .ref a :: st, h, u) := by show am_ev _ _ _ _ _ (am_sem _ _ _ _ _ _ _); simp only [am_sem, eo, e1, am_av, am_fp, e3]; refine ⟨⟨e2, fun hf => ?_, e5⟩, K⟩; rw [hf] at e4; simpa using e4
theorem ap_putJ {x c k a : Nat} {v : Int64} {o : Nat} (eo : am_ow j = o) (e1 : am_rf o x = some (c, k)) (e2 : am_ty h a = some (c + 3)) (e3 : am_ft c k = 2) (e4 : (!am_ff c k || (decide (o = c) && am_in j)) = true)  (K : am_run j C Q X r (pc + 3) (ls, st, am_pl h a k v, u))  : am_run j C Q X (.putfield x :: r) pc (ls, .long v :: .ref a :: st, h, u) := by show am_ev _ _ _ _ _ (am_sem _ _ _ _ _ _ _); simp only [am_sem, eo, e1, am_av, am_fp, e3]; refine ⟨⟨e2, fun hf => ?_, trivial⟩, K⟩; rw [hf] at e4; simpa using e4
theorem ap_putR {x c k a : Nat} {v : Nat} {o : Nat} (eo : am_ow j = o) (e1 : am_rf o x = some (c, k)) (e2 : am_ty h a = some (c + 3)) (e3 : am_ft c k = 3) (e4 : (!am_ff c k || (decide (o = c) && am_in j)) = true) (e5 : v < h.1) (K : am_run j C Q X r (pc + 3) (ls, st, am_pr h a k (v + 1), u))  : am_run j C Q X (.putfield x :: r) pc (ls, .ref v :: .ref a :: st, h, u) := by show am_ev _ _ _ _ _ (am_sem _ _ _ _ _ _ _); simp only [am_sem, eo, e1, am_av, am_fp, e3]; refine ⟨⟨e2, fun hf => ?_, e5⟩, K⟩; rw [hf] at e4; simpa using e4
theorem ap_iaload {a n : Nat} {i : Int32} (e1 : am_ty h a = some 0) (e3 : am_sz h a = n) (K : am_run j C Q X r (pc + 1) (ls, .int (h.2.2.1 a i.toNatClampNeg) :: st, h, u)) (e2 : vp_in i n) : am_run j C Q X (.iaload :: r) pc (ls, .int i :: .ref a :: st, h, u) := ⟨⟨Or.inl e1, by rw [e3]; exact e2⟩, K⟩
theorem ap_baload {a n : Nat} {i : Int32} (e1 : am_ty h a = some 1) (e3 : am_sz h a = n) (K : am_run j C Q X r (pc + 1) (ls, .int (h.2.2.1 a i.toNatClampNeg) :: st, h, u)) (e2 : vp_in i n) : am_run j C Q X (.baload :: r) pc (ls, .int i :: .ref a :: st, h, u) := ⟨⟨e1, by rw [e3]; exact e2⟩, K⟩
theorem ap_laload {a n : Nat} {i : Int32} (e1 : am_ty h a = some 2) (e3 : am_sz h a = n) (K : am_run j C Q X r (pc + 1) (ls, .long (h.2.2.2.1 a i.toNatClampNeg) :: st, h, u)) (e2 : vp_in i n) : am_run j C Q X (.laload :: r) pc (ls, .int i :: .ref a :: st, h, u) := ⟨⟨e1, by rw [e3]; exact e2⟩, K⟩
theorem ap_iastore {a n : Nat} {i : Int32} {x : Int32} (e1 : am_ty h a = some 0) (e3 : am_sz h a = n) (K : am_run j C Q X r (pc + 1) (ls, st, am_pi h a i.toNatClampNeg x, u)) (e2 : vp_in i n) : am_run j C Q X (.iastore :: r) pc (ls, .int x :: .int i :: .ref a :: st, h, u) := ⟨⟨e1, by rw [e3]; exact e2⟩, K⟩
theorem ap_bastore {a n : Nat} {i : Int32} {x : Int32} (e1 : am_ty h a = some 1) (e3 : am_sz h a = n) (K : am_run j C Q X r (pc + 1) (ls, st, am_pi h a i.toNatClampNeg x, u)) (e2 : vp_in i n) (e5 : x = 0 ∨ x = 1) : am_run j C Q X (.bastore :: r) pc (ls, .int x :: .int i :: .ref a :: st, h, u) := ⟨⟨e1, by rw [e3]; exact e2, e5⟩, K⟩
theorem ap_lastore {a n : Nat} {i : Int32} {x : Int64} (e1 : am_ty h a = some 2) (e3 : am_sz h a = n) (K : am_run j C Q X r (pc + 1) (ls, st, am_pl h a i.toNatClampNeg x, u)) (e2 : vp_in i n) : am_run j C Q X (.lastore :: r) pc (ls, .long x :: .int i :: .ref a :: st, h, u) := ⟨⟨e1, by rw [e3]; exact e2⟩, K⟩
theorem ap_idiv {x y : Int32} (e : ¬ y = 0) (K : am_run j C Q X r (pc + 1) (ls, .int (x / y) :: st, h, u))  : am_run j C Q X (.idiv :: r) pc (ls, .int y :: .int x :: st, h, u) := ⟨e, K⟩
theorem ap_irem {x y : Int32} (e : ¬ y = 0) (K : am_run j C Q X r (pc + 1) (ls, .int (x - x / y * y) :: st, h, u))  : am_run j C Q X (.irem :: r) pc (ls, .int y :: .int x :: st, h, u) := ⟨e, K⟩
theorem ap_ldiv {x y : Int64}  (K : am_run j C Q X r (pc + 1) (ls, .long (x / y) :: st, h, u)) (e : ¬ y = 0) : am_run j C Q X (.ldiv :: r) pc (ls, .long y :: .long x :: st, h, u) := ⟨e, K⟩
theorem ap_oinit {x a o : Nat} (eo : am_ow j = o) (e1 : am_rm o x = (1, 0)) (e2 : (st.map fun v => v.category).sum ≤ 8) (K : am_run j C Q X r (pc + 3) (ls, st, h, u)) : am_run j C Q X (.invokespecial x :: r) pc (ls, .ref a :: st, h, u) := by show am_ev _ _ _ _ _ (am_sem _ _ _ _ _ _ _); simp only [am_sem, am_ivi, eo, e1]; exact ⟨e2, K⟩
theorem ap_mabs {p o : Nat} {x : Int32} (eo : am_ow j = o) (e1 : am_rm o p = (2, 0)) (e2 : (st.map fun v => v.category).sum ≤ 8) (K : am_run j C Q X r (pc + 3) (ls, .int (if 0 ≤ x then x else 0 - x) :: st, h, u)) : am_run j C Q X (.invokestatic p :: r) pc (ls, .int x :: st, h, u) := by show am_ev _ _ _ _ _ (am_sem _ _ _ _ _ _ _); simp only [am_sem, am_ivs, eo, e1]; exact ⟨e2, K⟩
theorem ap_mabsl {p o : Nat} {x : Int64} (eo : am_ow j = o) (e1 : am_rm o p = (3, 0)) (e2 : (st.map fun v => v.category).sum ≤ 8) (K : am_run j C Q X r (pc + 3) (ls, .long (if 0 < x then x else -x) :: st, h, u)) : am_run j C Q X (.invokestatic p :: r) pc (ls, .long x :: st, h, u) := by show am_ev _ _ _ _ _ (am_sem _ _ _ _ _ _ _); simp only [am_sem, am_ivs, eo, e1]; exact ⟨e2, K⟩
theorem ap_mmaxl {p o : Nat} {x y : Int64} (eo : am_ow j = o) (e1 : am_rm o p = (4, 0)) (e2 : (st.map fun v => v.category).sum ≤ 8) (K : am_run j C Q X r (pc + 3) (ls, .long (if y < x then x else y) :: st, h, u)) : am_run j C Q X (.invokestatic p :: r) pc (ls, .long y :: .long x :: st, h, u) := by show am_ev _ _ _ _ _ (am_sem _ _ _ _ _ _ _); simp only [am_sem, am_ivs, eo, e1]; exact ⟨e2, K⟩
theorem ap_mminl {p o : Nat} {x y : Int64} (eo : am_ow j = o) (e1 : am_rm o p = (5, 0)) (e2 : (st.map fun v => v.category).sum ≤ 8) (K : am_run j C Q X r (pc + 3) (ls, .long (if y < x then y else x) :: st, h, u)) : am_run j C Q X (.invokestatic p :: r) pc (ls, .long y :: .long x :: st, h, u) := by show am_ev _ _ _ _ _ (am_sem _ _ _ _ _ _ _); simp only [am_sem, am_ivs, eo, e1]; exact ⟨e2, K⟩
theorem ap_goto {off : Int} {tgt : Nat} (e : am_tg pc off = tgt) (K : X tgt ls st h u) : am_run j C Q X (.goto off :: r) pc (ls, st, h, u) := by subst e; exact ⟨trivial, K⟩
theorem ap_ifeq {off : Int} {tgt nx : Nat} {x : Int32} (e : am_tg pc off = tgt) (e' : pc + 3 = nx) (kt : x = 0 → X tgt ls st h u) (kf : ¬ (x = 0) → X nx ls st h u) : am_run j C Q X (.ifCond .eq off :: r) pc (ls, .int x :: st, h, u) := by
  subst e; subst e'
  refine ⟨trivial, ?_⟩
  show X (if am_c1 .eq x = true then _ else _) ls st h u
  by_cases hc : x = 0
  · rw [if_pos (show am_c1 .eq x = true from decide_eq_true hc)]; exact kt hc
  · rw [if_neg (show ¬ am_c1 .eq x = true from fun w => hc (of_decide_eq_true w))]; exact kf hc
theorem ap_ifne {off : Int} {tgt nx : Nat} {x : Int32} (e : am_tg pc off = tgt) (e' : pc + 3 = nx) (kt : ¬ x = 0 → X tgt ls st h u) (kf : ¬ (¬ x = 0) → X nx ls st h u) : am_run j C Q X (.ifCond .ne off :: r) pc (ls, .int x :: st, h, u) := by
  subst e; subst e'
  refine ⟨trivial, ?_⟩
  show X (if am_c1 .ne x = true then _ else _) ls st h u
  by_cases hc : ¬ x = 0
  · rw [if_pos (show am_c1 .ne x = true from decide_eq_true hc)]; exact kt hc
  · rw [if_neg (show ¬ am_c1 .ne x = true from fun w => hc (of_decide_eq_true w))]; exact kf hc
theorem ap_iflt {off : Int} {tgt nx : Nat} {x : Int32} (e : am_tg pc off = tgt) (e' : pc + 3 = nx) (kt : x < 0 → X tgt ls st h u) (kf : ¬ (x < 0) → X nx ls st h u) : am_run j C Q X (.ifCond .lt off :: r) pc (ls, .int x :: st, h, u) := by
  subst e; subst e'
  refine ⟨trivial, ?_⟩
  show X (if am_c1 .lt x = true then _ else _) ls st h u
  by_cases hc : x < 0
  · rw [if_pos (show am_c1 .lt x = true from decide_eq_true hc)]; exact kt hc
  · rw [if_neg (show ¬ am_c1 .lt x = true from fun w => hc (of_decide_eq_true w))]; exact kf hc
theorem ap_ifge {off : Int} {tgt nx : Nat} {x : Int32} (e : am_tg pc off = tgt) (e' : pc + 3 = nx) (kt : 0 ≤ x → X tgt ls st h u) (kf : ¬ (0 ≤ x) → X nx ls st h u) : am_run j C Q X (.ifCond .ge off :: r) pc (ls, .int x :: st, h, u) := by
  subst e; subst e'
  refine ⟨trivial, ?_⟩
  show X (if am_c1 .ge x = true then _ else _) ls st h u
  by_cases hc : 0 ≤ x
  · rw [if_pos (show am_c1 .ge x = true from decide_eq_true hc)]; exact kt hc
  · rw [if_neg (show ¬ am_c1 .ge x = true from fun w => hc (of_decide_eq_true w))]; exact kf hc
theorem ap_ifgt {off : Int} {tgt nx : Nat} {x : Int32} (e : am_tg pc off = tgt) (e' : pc + 3 = nx) (kt : 0 < x → X tgt ls st h u) (kf : ¬ (0 < x) → X nx ls st h u) : am_run j C Q X (.ifCond .gt off :: r) pc (ls, .int x :: st, h, u) := by
  subst e; subst e'
  refine ⟨trivial, ?_⟩
  show X (if am_c1 .gt x = true then _ else _) ls st h u
  by_cases hc : 0 < x
  · rw [if_pos (show am_c1 .gt x = true from decide_eq_true hc)]; exact kt hc
  · rw [if_neg (show ¬ am_c1 .gt x = true from fun w => hc (of_decide_eq_true w))]; exact kf hc
theorem ap_ifle {off : Int} {tgt nx : Nat} {x : Int32} (e : am_tg pc off = tgt) (e' : pc + 3 = nx) (kt : x ≤ 0 → X tgt ls st h u) (kf : ¬ (x ≤ 0) → X nx ls st h u) : am_run j C Q X (.ifCond .le off :: r) pc (ls, .int x :: st, h, u) := by
  subst e; subst e'
  refine ⟨trivial, ?_⟩
  show X (if am_c1 .le x = true then _ else _) ls st h u
  by_cases hc : x ≤ 0
  · rw [if_pos (show am_c1 .le x = true from decide_eq_true hc)]; exact kt hc
  · rw [if_neg (show ¬ am_c1 .le x = true from fun w => hc (of_decide_eq_true w))]; exact kf hc
theorem ap_iceq {off : Int} {tgt nx : Nat} {x y : Int32} (e : am_tg pc off = tgt) (e' : pc + 3 = nx) (kt : x = y → X tgt ls st h u) (kf : ¬ (x = y) → X nx ls st h u) : am_run j C Q X (.if_icmp .eq off :: r) pc (ls, .int y :: .int x :: st, h, u) := by
  subst e; subst e'
  refine ⟨trivial, ?_⟩
  show X (if am_c2 .eq x y = true then _ else _) ls st h u
  by_cases hc : x = y
  · rw [if_pos (show am_c2 .eq x y = true from decide_eq_true hc)]; exact kt hc
  · rw [if_neg (show ¬ am_c2 .eq x y = true from fun w => hc (of_decide_eq_true w))]; exact kf hc
theorem ap_icne {off : Int} {tgt nx : Nat} {x y : Int32} (e : am_tg pc off = tgt) (e' : pc + 3 = nx) (kt : ¬ x = y → X tgt ls st h u) (kf : ¬ (¬ x = y) → X nx ls st h u) : am_run j C Q X (.if_icmp .ne off :: r) pc (ls, .int y :: .int x :: st, h, u) := by
  subst e; subst e'
  refine ⟨trivial, ?_⟩
  show X (if am_c2 .ne x y = true then _ else _) ls st h u
  by_cases hc : ¬ x = y
  · rw [if_pos (show am_c2 .ne x y = true from decide_eq_true hc)]; exact kt hc
  · rw [if_neg (show ¬ am_c2 .ne x y = true from fun w => hc (of_decide_eq_true w))]; exact kf hc
theorem ap_iclt {off : Int} {tgt nx : Nat} {x y : Int32} (e : am_tg pc off = tgt) (e' : pc + 3 = nx) (kt : x < y → X tgt ls st h u) (kf : ¬ (x < y) → X nx ls st h u) : am_run j C Q X (.if_icmp .lt off :: r) pc (ls, .int y :: .int x :: st, h, u) := by
  subst e; subst e'
  refine ⟨trivial, ?_⟩
  show X (if am_c2 .lt x y = true then _ else _) ls st h u
  by_cases hc : x < y
  · rw [if_pos (show am_c2 .lt x y = true from decide_eq_true hc)]; exact kt hc
  · rw [if_neg (show ¬ am_c2 .lt x y = true from fun w => hc (of_decide_eq_true w))]; exact kf hc
theorem ap_icge {off : Int} {tgt nx : Nat} {x y : Int32} (e : am_tg pc off = tgt) (e' : pc + 3 = nx) (kt : y ≤ x → X tgt ls st h u) (kf : ¬ (y ≤ x) → X nx ls st h u) : am_run j C Q X (.if_icmp .ge off :: r) pc (ls, .int y :: .int x :: st, h, u) := by
  subst e; subst e'
  refine ⟨trivial, ?_⟩
  show X (if am_c2 .ge x y = true then _ else _) ls st h u
  by_cases hc : y ≤ x
  · rw [if_pos (show am_c2 .ge x y = true from decide_eq_true hc)]; exact kt hc
  · rw [if_neg (show ¬ am_c2 .ge x y = true from fun w => hc (of_decide_eq_true w))]; exact kf hc
theorem ap_icgt {off : Int} {tgt nx : Nat} {x y : Int32} (e : am_tg pc off = tgt) (e' : pc + 3 = nx) (kt : y < x → X tgt ls st h u) (kf : ¬ (y < x) → X nx ls st h u) : am_run j C Q X (.if_icmp .gt off :: r) pc (ls, .int y :: .int x :: st, h, u) := by
  subst e; subst e'
  refine ⟨trivial, ?_⟩
  show X (if am_c2 .gt x y = true then _ else _) ls st h u
  by_cases hc : y < x
  · rw [if_pos (show am_c2 .gt x y = true from decide_eq_true hc)]; exact kt hc
  · rw [if_neg (show ¬ am_c2 .gt x y = true from fun w => hc (of_decide_eq_true w))]; exact kf hc
theorem ap_icle {off : Int} {tgt nx : Nat} {x y : Int32} (e : am_tg pc off = tgt) (e' : pc + 3 = nx) (kt : x ≤ y → X tgt ls st h u) (kf : ¬ (x ≤ y) → X nx ls st h u) : am_run j C Q X (.if_icmp .le off :: r) pc (ls, .int y :: .int x :: st, h, u) := by
  subst e; subst e'
  refine ⟨trivial, ?_⟩
  show X (if am_c2 .le x y = true then _ else _) ls st h u
  by_cases hc : x ≤ y
  · rw [if_pos (show am_c2 .le x y = true from decide_eq_true hc)]; exact kt hc
  · rw [if_neg (show ¬ am_c2 .le x y = true from fun w => hc (of_decide_eq_true w))]; exact kf hc
theorem ap_iret {v : Int32} (e : am_rt j = 0) (K : Q (some (.int v)) h) : am_run j C Q X (.ireturn :: r) pc (ls, [.int v], h, u) := ⟨Or.inl e, K⟩
theorem ap_zret {v : Int32} (e : am_rt j = 1) (e' : v = 0 ∨ v = 1) (K : Q (some (.int v)) h) : am_run j C Q X (.ireturn :: r) pc (ls, [.int v], h, u) := ⟨Or.inr ⟨e, e'⟩, K⟩
theorem ap_lret {v : Int64} (e : am_rt j = 2) (K : Q (some (.long v)) h) : am_run j C Q X (.lreturn :: r) pc (ls, [.long v], h, u) := ⟨e, K⟩
theorem ap_vret (e : am_rt j = 3) (K : Q none h) : am_run j C Q X (.return_ :: r) pc (ls, [], h, u) := ⟨e, K⟩
theorem ap_calls {x k n o : Nat} {as : List Value} {st' : List Value} (eo : am_ow j = o) (e1 : am_rm o x = (0, k)) (e2 : am_na k = n) (e3 : (st.take n).reverse = as) (e4 : st.drop n = st') (e5 : n ≤ st.length) (e6 : (st'.map fun v => v.category).sum ≤ 8) (e7 : am_rc h k as) (e8 : u.1 + am_mc k ≤ am_mc j) (e9 : u.2 + am_ms k ≤ am_ms j) (K : C k as h (fun v h' => am_run j C Q X r (pc + 3) (ls, v.toList ++ st', h', (u.1 + am_mc k, u.2 + am_ms k)))) : am_run j C Q X (.invokestatic x :: r) pc (ls, st, h, u) := by
  subst e2; subst e3; subst e4
  show am_ev _ _ _ _ _ (am_sem _ _ _ _ _ _ _)
  simp only [am_sem, am_ivs, eo, e1, am_cal]
  exact ⟨⟨e5, e6, e7, e8, e9⟩, K⟩
theorem ap_calls0 {x k n o : Nat} {as : List Value} {st' : List Value} (eo : am_ow j = o) (e1 : am_rm o x = (0, k)) (e2 : am_na k = n) (ec : am_mc k = 0) (es : am_ms k = 0) (e3 : (st.take n).reverse = as) (e4 : st.drop n = st') (e5 : n ≤ st.length) (e6 : (st'.map fun v => v.category).sum ≤ 8) (e7 : am_rc h k as) (e8 : u.1 ≤ am_mc j) (e9 : u.2 ≤ am_ms j) (K : C k as h (fun v h' => am_run j C Q X r (pc + 3) (ls, v.toList ++ st', h', u))) : am_run j C Q X (.invokestatic x :: r) pc (ls, st, h, u) := by
  refine ap_calls eo e1 e2 e3 e4 e5 e6 e7 (by rw [ec]; exact e8) (by rw [es]; exact e9) ?_
  rw [ec, es]
  exact K
theorem ap_callv {x k n o : Nat} {as : List Value} {st' : List Value} (eo : am_ow j = o) (e1 : am_rm o x = (6, k)) (e2 : am_na k = n) (e3 : (st.take n).reverse = as) (e4 : st.drop n = st') (e5 : n ≤ st.length) (e6 : (st'.map fun v => v.category).sum ≤ 8) (e7 : am_rc h k as) (e8 : u.1 + am_mc k ≤ am_mc j) (e9 : u.2 + am_ms k ≤ am_ms j) (K : C k as h (fun v h' => am_run j C Q X r (pc + 3) (ls, v.toList ++ st', h', (u.1 + am_mc k, u.2 + am_ms k)))) : am_run j C Q X (.invokevirtual x :: r) pc (ls, st, h, u) := by
  subst e2; subst e3; subst e4
  show am_ev _ _ _ _ _ (am_sem _ _ _ _ _ _ _)
  simp only [am_sem, am_ivv, eo, e1, am_cal]
  exact ⟨⟨e5, e6, e7, e8, e9⟩, K⟩
theorem ap_callv0 {x k n o : Nat} {as : List Value} {st' : List Value} (eo : am_ow j = o) (e1 : am_rm o x = (6, k)) (e2 : am_na k = n) (ec : am_mc k = 0) (es : am_ms k = 0) (e3 : (st.take n).reverse = as) (e4 : st.drop n = st') (e5 : n ≤ st.length) (e6 : (st'.map fun v => v.category).sum ≤ 8) (e7 : am_rc h k as) (e8 : u.1 ≤ am_mc j) (e9 : u.2 ≤ am_ms j) (K : C k as h (fun v h' => am_run j C Q X r (pc + 3) (ls, v.toList ++ st', h', u))) : am_run j C Q X (.invokevirtual x :: r) pc (ls, st, h, u) := by
  refine ap_callv eo e1 e2 e3 e4 e5 e6 e7 (by rw [ec]; exact e8) (by rw [es]; exact e9) ?_
  rw [ec, es]
  exact K
theorem ap_calli {x k n o : Nat} {as : List Value} {st' : List Value} (eo : am_ow j = o) (e1 : am_rm o x = (7, k)) (e2 : am_na k = n) (e3 : (st.take n).reverse = as) (e4 : st.drop n = st') (e5 : n ≤ st.length) (e6 : (st'.map fun v => v.category).sum ≤ 8) (e7 : am_rc h k as) (e8 : u.1 + am_mc k ≤ am_mc j) (e9 : u.2 + am_ms k ≤ am_ms j) (K : C k as h (fun v h' => am_run j C Q X r (pc + 3) (ls, v.toList ++ st', h', (u.1 + am_mc k, u.2 + am_ms k)))) : am_run j C Q X (.invokespecial x :: r) pc (ls, st, h, u) := by
  subst e2; subst e3; subst e4
  show am_ev _ _ _ _ _ (am_sem _ _ _ _ _ _ _)
  simp only [am_sem, am_ivi, eo, e1, am_cal]
  exact ⟨⟨e5, e6, e7, e8, e9⟩, K⟩
theorem ap_calli0 {x k n o : Nat} {as : List Value} {st' : List Value} (eo : am_ow j = o) (e1 : am_rm o x = (7, k)) (e2 : am_na k = n) (ec : am_mc k = 0) (es : am_ms k = 0) (e3 : (st.take n).reverse = as) (e4 : st.drop n = st') (e5 : n ≤ st.length) (e6 : (st'.map fun v => v.category).sum ≤ 8) (e7 : am_rc h k as) (e8 : u.1 ≤ am_mc j) (e9 : u.2 ≤ am_ms j) (K : C k as h (fun v h' => am_run j C Q X r (pc + 3) (ls, v.toList ++ st', h', u))) : am_run j C Q X (.invokespecial x :: r) pc (ls, st, h, u) := by
  refine ap_calli eo e1 e2 e3 e4 e5 e6 e7 (by rw [ec]; exact e8) (by rw [es]; exact e9) ?_
  rw [ec, es]
  exact K
theorem ap_nil (K : X pc ls st h u) : am_run j C Q X [] pc (ls, st, h, u) := K
end APR
/-- a method begins -/
theorem ap_call {d j : Nat} {as : List Value} {h : am_H} {Q : Option Value → am_H → Prop} {ls : am_L} (e1 : j < am_lst) (e2 : (am_sp as).length ≤ am_mL j) (e3 : am_en j as = ls) (K : am_Wp (am_call d) j Q 0 ls [] h (0, 0)) : am_call (d + 1) j as h Q := by
  subst e3; exact ⟨⟨e1, e2⟩, K⟩
/-- a block begins -/
theorem ap_go {d j : Nat} {Q : Option Value → am_H → Prop} {pc : Nat} {ls : am_L} {st : List Value} {h : am_H} {u : am_U} {b : List Jvm.ClassFile.Instr} (eb : am_code j pc = b) (K : am_run j (am_call d) Q (am_Wp (am_call d) j Q) b pc (ls, st, h, u)) : am_Wp (am_call d) j Q pc ls st h u := am_go (by rw [eb]; exact K)
end
section
/-! RULES OVER WHOLE NUMBERS: ints and longs as iZ z, lZ z of an Int, the heap's numbers as Ints (printed by wip/gen/irules.py) -/
abbrev iZ (z : Int) : Int32 := Int32.ofInt z
abbrev lZ (z : Int) : Int64 := Int64.ofInt z
abbrev iR (x : Int) : Prop := -2147483648 ≤ x ∧ x < 2147483648
abbrev lR (x : Int) : Prop := -9223372036854775808 ≤ x ∧ x < 9223372036854775808
def iH (f : Nat → Nat → Int) : Nat → Nat → Int32 := fun a k => iZ (f a k)
def jH (f : Nat → Nat → Int) : Nat → Nat → Int64 := fun a k => lZ (f a k)
theorem iH_up {f : Nat → Nat → Int} {a k : Nat} {v : Int} : am_up (iH f) a k (iZ v) = iH (am_up f a k v) := by
  funext b i
  simp only [am_up, iH]
  split <;> rfl
theorem jH_up {f : Nat → Nat → Int} {a k : Nat} {v : Int} : am_up (jH f) a k (lZ v) = jH (am_up f a k v) := by
  funext b i
  simp only [am_up, jH]
  split <;> rfl
theorem iZ_T {x : Int} (h : iR x) : (iZ x).toInt = x := Int32.toInt_ofInt_of_le h.1 h.2
theorem lZ_T {x : Int} (h : lR x) : (lZ x).toInt = x := Int64.toInt_ofInt_of_le h.1 h.2
theorem iZ_lt {x y : Int} (hx : iR x) (hy : iR y) : iZ x < iZ y ↔ x < y := by rw [Int32.lt_iff_toInt_lt, iZ_T hx, iZ_T hy]
theorem iZ_le {x y : Int} (hx : iR x) (hy : iR y) : iZ x ≤ iZ y ↔ x ≤ y := by rw [Int32.le_iff_toInt_le, iZ_T hx, iZ_T hy]
theorem iZ_eq {x y : Int} (hx : iR x) (hy : iR y) : iZ x = iZ y ↔ x = y := by rw [← Int32.toInt_inj, iZ_T hx, iZ_T hy]
theorem lZ_lt {x y : Int} (hx : lR x) (hy : lR y) : lZ x < lZ y ↔ x < y := by rw [Int64.lt_iff_toInt_lt, lZ_T hx, lZ_T hy]
theorem lZ_le {x y : Int} (hx : lR x) (hy : lR y) : lZ x ≤ lZ y ↔ x ≤ y := by rw [Int64.le_iff_toInt_le, lZ_T hx, lZ_T hy]
theorem lZ_eq {x y : Int} (hx : lR x) (hy : lR y) : lZ x = lZ y ↔ x = y := by rw [← Int64.toInt_inj, lZ_T hx, lZ_T hy]
theorem iZ_0 : (0 : Int32) = iZ 0 := rfl
theorem iR_0 : iR 0 := ⟨by decide, by decide⟩
theorem iZ_N {x : Int} (h : 0 ≤ x ∧ x < 2147483648) : (iZ x).toNatClampNeg = x.toNat := by
  have h1 : (0 : Int32) ≤ iZ x := by rw [iZ_0, iZ_le iR_0 ⟨by omega, h.2⟩]; exact h.1
  have h2 := Int32.cast_toNatClampNeg (iZ x) h1
  rw [iZ_T ⟨by omega, h.2⟩] at h2
  omega
theorem iZ_in {x : Int} {n : Nat} (h : 0 ≤ x ∧ x < n) (hn : n < 2147483648) : vp_in (iZ x) n := by
  rw [vp_in_iff, iZ_T ⟨by omega, by omega⟩]; exact h
theorem iZ_div {x y : Int} (h : 0 ≤ x ∧ x < 2147483648 ∧ 0 < y ∧ y < 2147483648) : iZ x / iZ y = iZ (x / y) := by
  have e : x.tdiv y = x / y := Int.tdiv_eq_ediv_of_nonneg h.1
  rw [← Int32.toInt_inj, Int32.toInt_div, iZ_T ⟨by omega, h.2.1⟩, iZ_T ⟨by omega, h.2.2.2⟩, e, Int32.toInt_ofInt]
theorem lZ_div {x y : Int} (h : 0 ≤ x ∧ x < 9223372036854775808 ∧ 0 < y ∧ y < 9223372036854775808) : lZ x / lZ y = lZ (x / y) := by
  have e : x.tdiv y = x / y := Int.tdiv_eq_ediv_of_nonneg h.1
  rw [← Int64.toInt_inj, Int64.toInt_div, lZ_T ⟨by omega, h.2.1⟩, lZ_T ⟨by omega, h.2.2.2⟩, e, Int64.toInt_ofInt]
theorem iZ_rem {x y : Int} (h : 0 ≤ x ∧ x < 2147483648 ∧ 0 < y ∧ y < 2147483648) : iZ x - iZ x / iZ y * iZ y = iZ (x % y) := by
  rw [iZ_div h, ← Int32.ofInt_mul, ← Int32.ofInt_sub, Int.emod_def, Int.mul_comm]
theorem iZ_ne0 {y : Int} (h : 0 < y ∧ y < 2147483648) : ¬ iZ y = 0 := by
  rw [iZ_0, iZ_eq ⟨by omega, h.2⟩ iR_0]; omega
theorem lZ_ne0 {y : Int} (h : 0 < y ∧ y < 9223372036854775808) : ¬ lZ y = 0 := by
  rw [show (0 : Int64) = lZ 0 from rfl, lZ_eq ⟨by omega, h.2⟩ ⟨by decide, by decide⟩]; omega
theorem iZ_l {x : Int} (h : iR x) : (iZ x).toInt64 = lZ x := by
  rw [← Int64.toInt_inj, Int32.toInt_toInt64, iZ_T h, lZ_T ⟨by omega, by omega⟩]
section AIR
variable {j : Nat} {C : am_C} {Q : Option Value → am_H → Prop} {X : am_X} {r : List Jvm.ClassFile.Instr} {pc : Nat} {ls : am_L} {st : List Value} {h : am_H} {u : am_U} {hn : Nat} {lt : Nat → Nat × Nat} {f g : Nat → Nat → Int} {rt : Nat → Nat → Nat}
theorem ai_iconst {n : Int}  (K : am_run j C Q X r (pc + 1) (ls, .int (iZ n) :: st, h, u))  : am_run j C Q X (.iconst n :: r) pc (ls, st, h, u) := by
  exact ap_iconst rfl K
theorem ai_bipush {n : Int} (e : (Int8.ofInt n).toInt32 = Int32.ofInt n) (K : am_run j C Q X r (pc + 2) (ls, .int (iZ n) :: st, h, u))  : am_run j C Q X (.bipush n :: r) pc (ls, st, h, u) := by
  exact ap_bipush e K
theorem ai_sipush {n : Int} (e : (Int16.ofInt n).toInt32 = Int32.ofInt n) (K : am_run j C Q X r (pc + 3) (ls, .int (iZ n) :: st, h, u))  : am_run j C Q X (.sipush n :: r) pc (ls, st, h, u) := by
  exact ap_sipush e K
theorem ai_lconst {n : Fin 2} (z : Int) (e : Int64.ofNat (n : Nat) = Int64.ofInt z) (K : am_run j C Q X r (pc + 1) (ls, .long (lZ z) :: st, h, u))  : am_run j C Q X (.lconst n :: r) pc (ls, st, h, u) := by
  exact ap_lconst (by rw [e]; exact K)
theorem ai_ldc2 {x o : Nat} {v : Int64} (z : Int) (eo : am_ow j = o) (e : am_kL o x = some v) (ez : v = Int64.ofInt z) (K : am_run j C Q X r (pc + 3) (ls, .long (lZ z) :: st, h, u))  : am_run j C Q X (.ldc2_w x :: r) pc (ls, st, h, u) := by
  exact ap_ldc2 eo e (by rw [ez]; exact K)
theorem ai_iinc {k : Nat} {n x : Int} {ls' : am_L} (e : am_lk ls k = some (.int (iZ x))) (e' : am_s1 ls k (.int (iZ (x + n))) = ls') (K : am_run j C Q X r (pc + 3) (ls', st, h, u))  : am_run j C Q X (.iinc k n :: r) pc (ls, st, h, u) := by
  exact ap_iinc e (by rw [← Int32.ofInt_add]; exact e') K
theorem ai_iadd {x y : Int}  (K : am_run j C Q X r (pc + 1) (ls, .int (iZ (x + y)) :: st, h, u))  : am_run j C Q X (.iadd :: r) pc (ls, .int (iZ y) :: .int (iZ x) :: st, h, u) := by
  exact ap_iadd (by rw [← Int32.ofInt_add]; exact K)
theorem ai_isub {x y : Int}  (K : am_run j C Q X r (pc + 1) (ls, .int (iZ (x - y)) :: st, h, u))  : am_run j C Q X (.isub :: r) pc (ls, .int (iZ y) :: .int (iZ x) :: st, h, u) := by
  exact ap_isub (by rw [← Int32.ofInt_sub]; exact K)
theorem ai_imul {x y : Int}  (K : am_run j C Q X r (pc + 1) (ls, .int (iZ (x * y)) :: st, h, u))  : am_run j C Q X (.imul :: r) pc (ls, .int (iZ y) :: .int (iZ x) :: st, h, u) := by
  exact ap_imul (by rw [← Int32.ofInt_mul]; exact K)
theorem ai_ladd {x y : Int}  (K : am_run j C Q X r (pc + 1) (ls, .long (lZ (x + y)) :: st, h, u))  : am_run j C Q X (.ladd :: r) pc (ls, .long (lZ y) :: .long (lZ x) :: st, h, u) := by
  exact ap_ladd (by rw [← Int64.ofInt_add]; exact K)
theorem ai_lsub {x y : Int}  (K : am_run j C Q X r (pc + 1) (ls, .long (lZ (x - y)) :: st, h, u))  : am_run j C Q X (.lsub :: r) pc (ls, .long (lZ y) :: .long (lZ x) :: st, h, u) := by
  exact ap_lsub (by rw [← Int64.ofInt_sub]; exact K)
theorem ai_lmul {x y : Int}  (K : am_run j C Q X r (pc + 1) (ls, .long (lZ (x * y)) :: st, h, u))  : am_run j C Q X (.lmul :: r) pc (ls, .long (lZ y) :: .long (lZ x) :: st, h, u) := by
  exact ap_lmul (by rw [← Int64.ofInt_mul]; exact K)
theorem ai_ineg {x : Int}  (K : am_run j C Q X r (pc + 1) (ls, .int (iZ (-x)) :: st, h, u))  : am_run j C Q X (.ineg :: r) pc (ls, .int (iZ x) :: st, h, u) := by
  exact ap_ineg (by rw [← Int32.ofInt_neg]; exact K)
theorem ai_lneg {x : Int}  (K : am_run j C Q X r (pc + 1) (ls, .long (lZ (-x)) :: st, h, u))  : am_run j C Q X (.lneg :: r) pc (ls, .long (lZ x) :: st, h, u) := by
  exact ap_lneg (by rw [← Int64.ofInt_neg]; exact K)
theorem ai_i2l {x : Int}  (K : am_run j C Q X r (pc + 1) (ls, .long (lZ x) :: st, h, u)) (e : iR x) : am_run j C Q X (.i2l :: r) pc (ls, .int (iZ x) :: st, h, u) := by
  exact ap_i2l (by rw [iZ_l e]; exact K)
theorem ai_l2i {x : Int}  (K : am_run j C Q X r (pc + 1) (ls, .int (iZ x) :: st, h, u))  : am_run j C Q X (.l2i :: r) pc (ls, .long (lZ x) :: st, h, u) := by
  exact ap_l2i (by rw [Int64.toInt32_ofInt]; exact K)
theorem ai_idiv {x y : Int}  (K : am_run j C Q X r (pc + 1) (ls, .int (iZ (x / y)) :: st, h, u)) (e : 0 ≤ x ∧ x < 2147483648 ∧ 0 < y ∧ y < 2147483648) : am_run j C Q X (.idiv :: r) pc (ls, .int (iZ y) :: .int (iZ x) :: st, h, u) := by
  exact ap_idiv (iZ_ne0 e.2.2) (by rw [iZ_div e]; exact K)
theorem ai_irem {x y : Int}  (K : am_run j C Q X r (pc + 1) (ls, .int (iZ (x % y)) :: st, h, u)) (e : 0 ≤ x ∧ x < 2147483648 ∧ 0 < y ∧ y < 2147483648) : am_run j C Q X (.irem :: r) pc (ls, .int (iZ y) :: .int (iZ x) :: st, h, u) := by
  exact ap_irem (iZ_ne0 e.2.2) (by rw [iZ_rem e]; exact K)
theorem ai_ldiv {x y : Int}  (K : am_run j C Q X r (pc + 1) (ls, .long (lZ (x / y)) :: st, h, u)) (e : 0 ≤ x ∧ x < 9223372036854775808 ∧ 0 < y ∧ y < 9223372036854775808) : am_run j C Q X (.ldiv :: r) pc (ls, .long (lZ y) :: .long (lZ x) :: st, h, u) := by
  exact ap_ldiv (by rw [lZ_div e]; exact K) (lZ_ne0 e.2.2)
theorem ai_getI {x c k a : Nat} {o : Nat} (eo : am_ow j = o) (e1 : am_rf o x = some (c, k)) (e2 : am_ty (hn, lt, iH f, jH g, rt) a = some (c + 3)) (e3 : am_ft c k = 0) (K : am_run j C Q X r (pc + 3) (ls, .int (iZ (f a k)) :: st, (hn, lt, iH f, jH g, rt), u))  : am_run j C Q X (.getfield x :: r) pc (ls, .ref a :: st, (hn, lt, iH f, jH g, rt), u) := by
  exact ap_getI eo e1 e2 e3 K
theorem ai_getZ {x c k a : Nat} {o : Nat} (eo : am_ow j = o) (e1 : am_rf o x = some (c, k)) (e2 : am_ty (hn, lt, iH f, jH g, rt) a = some (c + 3)) (e3 : am_ft c k = 1) (K : am_run j C Q X r (pc + 3) (ls, .int (iZ (f a k)) :: st, (hn, lt, iH f, jH g, rt), u))  : am_run j C Q X (.getfield x :: r) pc (ls, .ref a :: st, (hn, lt, iH f, jH g, rt), u) := by
  exact ap_getZ eo e1 e2 e3 K
theorem ai_getJ {x c k a : Nat} {o : Nat} (eo : am_ow j = o) (e1 : am_rf o x = some (c, k)) (e2 : am_ty (hn, lt, iH f, jH g, rt) a = some (c + 3)) (e3 : am_ft c k = 2) (K : am_run j C Q X r (pc + 3) (ls, .long (lZ (g a k)) :: st, (hn, lt, iH f, jH g, rt), u))  : am_run j C Q X (.getfield x :: r) pc (ls, .ref a :: st, (hn, lt, iH f, jH g, rt), u) := by
  exact ap_getJ eo e1 e2 e3 K
theorem ai_putI {x c k a : Nat} {v : Int} {o : Nat} (eo : am_ow j = o) (e1 : am_rf o x = some (c, k)) (e2 : am_ty (hn, lt, iH f, jH g, rt) a = some (c + 3)) (e3 : am_ft c k = 0) (e4 : (!am_ff c k || (decide (o = c) && am_in j)) = true) (K : am_run j C Q X r (pc + 3) (ls, st, (hn, lt, iH (am_up f a k v), jH g, rt), u))  : am_run j C Q X (.putfield x :: r) pc (ls, .int (iZ v) :: .ref a :: st, (hn, lt, iH f, jH g, rt), u) := by
  exact ap_putI eo e1 e2 e3 e4 (by rw [← iH_up] at K; exact K)
theorem ai_putZ {x c k a : Nat} {v : Int} {o : Nat} (eo : am_ow j = o) (e1 : am_rf o x = some (c, k)) (e2 : am_ty (hn, lt, iH f, jH g, rt) a = some (c + 3)) (e3 : am_ft c k = 1) (e4 : (!am_ff c k || (decide (o = c) && am_in j)) = true) (K : am_run j C Q X r (pc + 3) (ls, st, (hn, lt, iH (am_up f a k v), jH g, rt), u)) (e5 : v = 0 ∨ v = 1) : am_run j C Q X (.putfield x :: r) pc (ls, .int (iZ v) :: .ref a :: st, (hn, lt, iH f, jH g, rt), u) := by
  exact ap_putZ eo e1 e2 e3 e4 (by rw [← iH_up] at K; exact K) (by rcases e5 with rfl | rfl; exact Or.inl rfl; exact Or.inr rfl)
theorem ai_putJ {x c k a : Nat} {v : Int} {o : Nat} (eo : am_ow j = o) (e1 : am_rf o x = some (c, k)) (e2 : am_ty (hn, lt, iH f, jH g, rt) a = some (c + 3)) (e3 : am_ft c k = 2) (e4 : (!am_ff c k || (decide (o = c) && am_in j)) = true) (K : am_run j C Q X r (pc + 3) (ls, st, (hn, lt, iH f, jH (am_up g a k v), rt), u))  : am_run j C Q X (.putfield x :: r) pc (ls, .long (lZ v) :: .ref a :: st, (hn, lt, iH f, jH g, rt), u) := by
  exact ap_putJ eo e1 e2 e3 e4 (by rw [← jH_up] at K; exact K)
theorem ai_iaload {a n : Nat} {i : Int} (e1 : am_ty (hn, lt, iH f, jH g, rt) a = some 0) (e3 : am_sz (hn, lt, iH f, jH g, rt) a = n) (en : n < 2147483648) (K : am_run j C Q X r (pc + 1) (ls, .int (iZ (f a i.toNat)) :: st, (hn, lt, iH f, jH g, rt), u)) (e2 : 0 ≤ i ∧ i < n) : am_run j C Q X (.iaload :: r) pc (ls, .int (iZ i) :: .ref a :: st, (hn, lt, iH f, jH g, rt), u) := by
  exact ap_iaload e1 e3 (by rw [iZ_N ⟨e2.1, by omega⟩]; exact K) (iZ_in e2 en)
theorem ai_baload {a n : Nat} {i : Int} (e1 : am_ty (hn, lt, iH f, jH g, rt) a = some 1) (e3 : am_sz (hn, lt, iH f, jH g, rt) a = n) (en : n < 2147483648) (K : am_run j C Q X r (pc + 1) (ls, .int (iZ (f a i.toNat)) :: st, (hn, lt, iH f, jH g, rt), u)) (e2 : 0 ≤ i ∧ i < n) : am_run j C Q X (.baload :: r) pc (ls, .int (iZ i) :: .ref a :: st, (hn, lt, iH f, jH g, rt), u) := by
  exact ap_baload e1 e3 (by rw [iZ_N ⟨e2.1, by omega⟩]; exact K) (iZ_in e2 en)
theorem ai_laload {a n : Nat} {i : Int} (e1 : am_ty (hn, lt, iH f, jH g, rt) a = some 2) (e3 : am_sz (hn, lt, iH f, jH g, rt) a = n) (en : n < 2147483648) (K : am_run j C Q X r (pc + 1) (ls, .long (lZ (g a i.toNat)) :: st, (hn, lt, iH f, jH g, rt), u)) (e2 : 0 ≤ i ∧ i < n) : am_run j C Q X (.laload :: r) pc (ls, .int (iZ i) :: .ref a :: st, (hn, lt, iH f, jH g, rt), u) := by
  exact ap_laload e1 e3 (by rw [iZ_N ⟨e2.1, by omega⟩]; exact K) (iZ_in e2 en)
theorem ai_iastore {a n : Nat} {i x : Int} (e1 : am_ty (hn, lt, iH f, jH g, rt) a = some 0) (e3 : am_sz (hn, lt, iH f, jH g, rt) a = n) (en : n < 2147483648) (K : am_run j C Q X r (pc + 1) (ls, st, (hn, lt, iH (am_up f a i.toNat x), jH g, rt), u)) (e2 : 0 ≤ i ∧ i < n) : am_run j C Q X (.iastore :: r) pc (ls, .int (iZ x) :: .int (iZ i) :: .ref a :: st, (hn, lt, iH f, jH g, rt), u) := by
  exact ap_iastore e1 e3 (by rw [iZ_N ⟨e2.1, by omega⟩]; rw [← iH_up] at K; exact K) (iZ_in e2 en)
theorem ai_bastore {a n : Nat} {i x : Int} (e1 : am_ty (hn, lt, iH f, jH g, rt) a = some 1) (e3 : am_sz (hn, lt, iH f, jH g, rt) a = n) (en : n < 2147483648) (K : am_run j C Q X r (pc + 1) (ls, st, (hn, lt, iH (am_up f a i.toNat x), jH g, rt), u)) (e2 : 0 ≤ i ∧ i < n) (e5 : x = 0 ∨ x = 1) : am_run j C Q X (.bastore :: r) pc (ls, .int (iZ x) :: .int (iZ i) :: .ref a :: st, (hn, lt, iH f, jH g, rt), u) := by
  exact ap_bastore e1 e3 (by rw [iZ_N ⟨e2.1, by omega⟩]; rw [← iH_up] at K; exact K) (iZ_in e2 en) (by rcases e5 with rfl | rfl; exact Or.inl rfl; exact Or.inr rfl)
theorem ai_lastore {a n : Nat} {i x : Int} (e1 : am_ty (hn, lt, iH f, jH g, rt) a = some 2) (e3 : am_sz (hn, lt, iH f, jH g, rt) a = n) (en : n < 2147483648) (K : am_run j C Q X r (pc + 1) (ls, st, (hn, lt, iH f, jH (am_up g a i.toNat x), rt), u)) (e2 : 0 ≤ i ∧ i < n) : am_run j C Q X (.lastore :: r) pc (ls, .long (lZ x) :: .int (iZ i) :: .ref a :: st, (hn, lt, iH f, jH g, rt), u) := by
  exact ap_lastore e1 e3 (by rw [iZ_N ⟨e2.1, by omega⟩]; rw [← jH_up] at K; exact K) (iZ_in e2 en)
theorem ai_ifeq {off : Int} {tgt nx : Nat} {x : Int} (e : am_tg pc off = tgt) (e' : pc + 3 = nx) (kt : x = 0 → X tgt ls st h u) (kf : ¬ (x = 0) → X nx ls st h u) (er : iR x) : am_run j C Q X (.ifCond .eq off :: r) pc (ls, .int (iZ x) :: st, h, u) := by
  have q := iZ_eq er iR_0
  rw [← iZ_0] at q
  exact ap_ifeq e e' (fun z => kt (by first | exact q.mp z | exact fun w => z (q.mpr w))) (fun z => kf (by first | exact fun w => z (q.mpr w) | exact fun w => z (fun y => w (q.mp y))))
theorem ai_ifne {off : Int} {tgt nx : Nat} {x : Int} (e : am_tg pc off = tgt) (e' : pc + 3 = nx) (kt : ¬ x = 0 → X tgt ls st h u) (kf : ¬ (¬ x = 0) → X nx ls st h u) (er : iR x) : am_run j C Q X (.ifCond .ne off :: r) pc (ls, .int (iZ x) :: st, h, u) := by
  have q := iZ_eq er iR_0
  rw [← iZ_0] at q
  exact ap_ifne e e' (fun z => kt (by first | exact q.mp z | exact fun w => z (q.mpr w))) (fun z => kf (by first | exact fun w => z (q.mpr w) | exact fun w => z (fun y => w (q.mp y))))
theorem ai_iflt {off : Int} {tgt nx : Nat} {x : Int} (e : am_tg pc off = tgt) (e' : pc + 3 = nx) (kt : x < 0 → X tgt ls st h u) (kf : ¬ (x < 0) → X nx ls st h u) (er : iR x) : am_run j C Q X (.ifCond .lt off :: r) pc (ls, .int (iZ x) :: st, h, u) := by
  have q := iZ_lt er iR_0
  rw [← iZ_0] at q
  exact ap_iflt e e' (fun z => kt (by first | exact q.mp z | exact fun w => z (q.mpr w))) (fun z => kf (by first | exact fun w => z (q.mpr w) | exact fun w => z (fun y => w (q.mp y))))
theorem ai_ifge {off : Int} {tgt nx : Nat} {x : Int} (e : am_tg pc off = tgt) (e' : pc + 3 = nx) (kt : 0 ≤ x → X tgt ls st h u) (kf : ¬ (0 ≤ x) → X nx ls st h u) (er : iR x) : am_run j C Q X (.ifCond .ge off :: r) pc (ls, .int (iZ x) :: st, h, u) := by
  have q := iZ_le iR_0 er
  rw [← iZ_0] at q
  exact ap_ifge e e' (fun z => kt (by first | exact q.mp z | exact fun w => z (q.mpr w))) (fun z => kf (by first | exact fun w => z (q.mpr w) | exact fun w => z (fun y => w (q.mp y))))
theorem ai_ifgt {off : Int} {tgt nx : Nat} {x : Int} (e : am_tg pc off = tgt) (e' : pc + 3 = nx) (kt : 0 < x → X tgt ls st h u) (kf : ¬ (0 < x) → X nx ls st h u) (er : iR x) : am_run j C Q X (.ifCond .gt off :: r) pc (ls, .int (iZ x) :: st, h, u) := by
  have q := iZ_lt iR_0 er
  rw [← iZ_0] at q
  exact ap_ifgt e e' (fun z => kt (by first | exact q.mp z | exact fun w => z (q.mpr w))) (fun z => kf (by first | exact fun w => z (q.mpr w) | exact fun w => z (fun y => w (q.mp y))))
theorem ai_ifle {off : Int} {tgt nx : Nat} {x : Int} (e : am_tg pc off = tgt) (e' : pc + 3 = nx) (kt : x ≤ 0 → X tgt ls st h u) (kf : ¬ (x ≤ 0) → X nx ls st h u) (er : iR x) : am_run j C Q X (.ifCond .le off :: r) pc (ls, .int (iZ x) :: st, h, u) := by
  have q := iZ_le er iR_0
  rw [← iZ_0] at q
  exact ap_ifle e e' (fun z => kt (by first | exact q.mp z | exact fun w => z (q.mpr w))) (fun z => kf (by first | exact fun w => z (q.mpr w) | exact fun w => z (fun y => w (q.mp y))))
theorem ai_iceq {off : Int} {tgt nx : Nat} {x y : Int} (e : am_tg pc off = tgt) (e' : pc + 3 = nx) (kt : x = y → X tgt ls st h u) (kf : ¬ (x = y) → X nx ls st h u) (er : iR x ∧ iR y) : am_run j C Q X (.if_icmp .eq off :: r) pc (ls, .int (iZ y) :: .int (iZ x) :: st, h, u) := by
  have q := iZ_eq er.1 er.2
  exact ap_iceq e e' (fun z => kt (by first | exact q.mp z | exact fun w => z (q.mpr w))) (fun z => kf (by first | exact fun w => z (q.mpr w) | exact fun w => z (fun y => w (q.mp y))))
theorem ai_lceq {off : Int} {tgt nx : Nat} {x y : Int} (e : am_tg (pc + 1) off = tgt) (e' : pc + 1 + 3 = nx) (kt : x = y → X tgt ls st h u) (kf : ¬ (x = y) → X nx ls st h u) (er : lR x ∧ lR y) : am_run j C Q X (.lcmp :: .ifCond .eq off :: r) pc (ls, .long (lZ y) :: .long (lZ x) :: st, h, u) := by
  have q := (lg_cmp_eq _ _).trans (lZ_eq er.1 er.2)
  exact ap_lcmp (ap_ifeq e e' (fun z => kt (by first | exact q.mp z | exact fun w => z (q.mpr w))) (fun z => kf (by first | exact fun w => z (q.mpr w) | exact fun w => z (fun y => w (q.mp y)))))
theorem ai_icne {off : Int} {tgt nx : Nat} {x y : Int} (e : am_tg pc off = tgt) (e' : pc + 3 = nx) (kt : ¬ x = y → X tgt ls st h u) (kf : ¬ (¬ x = y) → X nx ls st h u) (er : iR x ∧ iR y) : am_run j C Q X (.if_icmp .ne off :: r) pc (ls, .int (iZ y) :: .int (iZ x) :: st, h, u) := by
  have q := iZ_eq er.1 er.2
  exact ap_icne e e' (fun z => kt (by first | exact q.mp z | exact fun w => z (q.mpr w))) (fun z => kf (by first | exact fun w => z (q.mpr w) | exact fun w => z (fun y => w (q.mp y))))
theorem ai_lcne {off : Int} {tgt nx : Nat} {x y : Int} (e : am_tg (pc + 1) off = tgt) (e' : pc + 1 + 3 = nx) (kt : ¬ x = y → X tgt ls st h u) (kf : ¬ (¬ x = y) → X nx ls st h u) (er : lR x ∧ lR y) : am_run j C Q X (.lcmp :: .ifCond .ne off :: r) pc (ls, .long (lZ y) :: .long (lZ x) :: st, h, u) := by
  have q := (lg_cmp_eq _ _).trans (lZ_eq er.1 er.2)
  exact ap_lcmp (ap_ifne e e' (fun z => kt (by first | exact q.mp z | exact fun w => z (q.mpr w))) (fun z => kf (by first | exact fun w => z (q.mpr w) | exact fun w => z (fun y => w (q.mp y)))))
theorem ai_iclt {off : Int} {tgt nx : Nat} {x y : Int} (e : am_tg pc off = tgt) (e' : pc + 3 = nx) (kt : x < y → X tgt ls st h u) (kf : ¬ (x < y) → X nx ls st h u) (er : iR x ∧ iR y) : am_run j C Q X (.if_icmp .lt off :: r) pc (ls, .int (iZ y) :: .int (iZ x) :: st, h, u) := by
  have q := iZ_lt er.1 er.2
  exact ap_iclt e e' (fun z => kt (by first | exact q.mp z | exact fun w => z (q.mpr w))) (fun z => kf (by first | exact fun w => z (q.mpr w) | exact fun w => z (fun y => w (q.mp y))))
theorem ai_lclt {off : Int} {tgt nx : Nat} {x y : Int} (e : am_tg (pc + 1) off = tgt) (e' : pc + 1 + 3 = nx) (kt : x < y → X tgt ls st h u) (kf : ¬ (x < y) → X nx ls st h u) (er : lR x ∧ lR y) : am_run j C Q X (.lcmp :: .ifCond .lt off :: r) pc (ls, .long (lZ y) :: .long (lZ x) :: st, h, u) := by
  have q := (lg_cmp_lt _ _).trans (lZ_lt er.1 er.2)
  exact ap_lcmp (ap_iflt e e' (fun z => kt (by first | exact q.mp z | exact fun w => z (q.mpr w))) (fun z => kf (by first | exact fun w => z (q.mpr w) | exact fun w => z (fun y => w (q.mp y)))))
theorem ai_icge {off : Int} {tgt nx : Nat} {x y : Int} (e : am_tg pc off = tgt) (e' : pc + 3 = nx) (kt : y ≤ x → X tgt ls st h u) (kf : ¬ (y ≤ x) → X nx ls st h u) (er : iR x ∧ iR y) : am_run j C Q X (.if_icmp .ge off :: r) pc (ls, .int (iZ y) :: .int (iZ x) :: st, h, u) := by
  have q := iZ_le er.2 er.1
  exact ap_icge e e' (fun z => kt (by first | exact q.mp z | exact fun w => z (q.mpr w))) (fun z => kf (by first | exact fun w => z (q.mpr w) | exact fun w => z (fun y => w (q.mp y))))
theorem ai_lcge {off : Int} {tgt nx : Nat} {x y : Int} (e : am_tg (pc + 1) off = tgt) (e' : pc + 1 + 3 = nx) (kt : y ≤ x → X tgt ls st h u) (kf : ¬ (y ≤ x) → X nx ls st h u) (er : lR x ∧ lR y) : am_run j C Q X (.lcmp :: .ifCond .ge off :: r) pc (ls, .long (lZ y) :: .long (lZ x) :: st, h, u) := by
  have q := (lg_cmp_ge _ _).trans (lZ_le er.2 er.1)
  exact ap_lcmp (ap_ifge e e' (fun z => kt (by first | exact q.mp z | exact fun w => z (q.mpr w))) (fun z => kf (by first | exact fun w => z (q.mpr w) | exact fun w => z (fun y => w (q.mp y)))))
theorem ai_icgt {off : Int} {tgt nx : Nat} {x y : Int} (e : am_tg pc off = tgt) (e' : pc + 3 = nx) (kt : y < x → X tgt ls st h u) (kf : ¬ (y < x) → X nx ls st h u) (er : iR x ∧ iR y) : am_run j C Q X (.if_icmp .gt off :: r) pc (ls, .int (iZ y) :: .int (iZ x) :: st, h, u) := by
  have q := iZ_lt er.2 er.1
  exact ap_icgt e e' (fun z => kt (by first | exact q.mp z | exact fun w => z (q.mpr w))) (fun z => kf (by first | exact fun w => z (q.mpr w) | exact fun w => z (fun y => w (q.mp y))))
theorem ai_lcgt {off : Int} {tgt nx : Nat} {x y : Int} (e : am_tg (pc + 1) off = tgt) (e' : pc + 1 + 3 = nx) (kt : y < x → X tgt ls st h u) (kf : ¬ (y < x) → X nx ls st h u) (er : lR x ∧ lR y) : am_run j C Q X (.lcmp :: .ifCond .gt off :: r) pc (ls, .long (lZ y) :: .long (lZ x) :: st, h, u) := by
  have q := (lg_cmp_gt _ _).trans (lZ_lt er.2 er.1)
  exact ap_lcmp (ap_ifgt e e' (fun z => kt (by first | exact q.mp z | exact fun w => z (q.mpr w))) (fun z => kf (by first | exact fun w => z (q.mpr w) | exact fun w => z (fun y => w (q.mp y)))))
theorem ai_icle {off : Int} {tgt nx : Nat} {x y : Int} (e : am_tg pc off = tgt) (e' : pc + 3 = nx) (kt : x ≤ y → X tgt ls st h u) (kf : ¬ (x ≤ y) → X nx ls st h u) (er : iR x ∧ iR y) : am_run j C Q X (.if_icmp .le off :: r) pc (ls, .int (iZ y) :: .int (iZ x) :: st, h, u) := by
  have q := iZ_le er.1 er.2
  exact ap_icle e e' (fun z => kt (by first | exact q.mp z | exact fun w => z (q.mpr w))) (fun z => kf (by first | exact fun w => z (q.mpr w) | exact fun w => z (fun y => w (q.mp y))))
theorem ai_lcle {off : Int} {tgt nx : Nat} {x y : Int} (e : am_tg (pc + 1) off = tgt) (e' : pc + 1 + 3 = nx) (kt : x ≤ y → X tgt ls st h u) (kf : ¬ (x ≤ y) → X nx ls st h u) (er : lR x ∧ lR y) : am_run j C Q X (.lcmp :: .ifCond .le off :: r) pc (ls, .long (lZ y) :: .long (lZ x) :: st, h, u) := by
  have q := (lg_cmp_le _ _).trans (lZ_le er.1 er.2)
  exact ap_lcmp (ap_ifle e e' (fun z => kt (by first | exact q.mp z | exact fun w => z (q.mpr w))) (fun z => kf (by first | exact fun w => z (q.mpr w) | exact fun w => z (fun y => w (q.mp y)))))
theorem ai_zret {v : Int} (e : am_rt j = 1) (K : Q (some (.int (iZ v))) h) (e' : v = 0 ∨ v = 1) : am_run j C Q X (.ireturn :: r) pc (ls, [.int (iZ v)], h, u) := ap_zret e (by rcases e' with rfl | rfl; exact Or.inl rfl; exact Or.inr rfl) K
theorem ai_mabs {p o : Nat} {x : Int} (eo : am_ow j = o) (e1 : am_rm o p = (2, 0)) (e2 : (st.map fun v => v.category).sum ≤ 8) (K : am_run j C Q X r (pc + 3) (ls, .int (iZ (if 0 ≤ x then x else -x)) :: st, h, u)) (e : iR x) : am_run j C Q X (.invokestatic p :: r) pc (ls, .int (iZ x) :: st, h, u) := by
  refine ap_mabs eo e1 e2 ?_
  have q := iZ_le iR_0 e
  rw [← iZ_0] at q
  by_cases hx : 0 ≤ x
  · rw [if_pos (q.mpr hx)]; rw [if_pos hx] at K; exact K
  · rw [if_neg (fun w => hx (q.mp w)), Int32.zero_sub, ← Int32.ofInt_neg]; rw [if_neg hx] at K; exact K
theorem ai_mabsl {p o : Nat} {x : Int} (eo : am_ow j = o) (e1 : am_rm o p = (3, 0)) (e2 : (st.map fun v => v.category).sum ≤ 8) (K : am_run j C Q X r (pc + 3) (ls, .long (lZ (if 0 < x then x else -x)) :: st, h, u)) (e : lR x) : am_run j C Q X (.invokestatic p :: r) pc (ls, .long (lZ x) :: st, h, u) := by
  refine ap_mabsl eo e1 e2 ?_
  have q := lZ_lt (x := 0) ⟨by decide, by decide⟩ e
  rw [← show (0 : Int64) = lZ 0 from rfl] at q
  by_cases hx : 0 < x
  · rw [if_pos (q.mpr hx)]; rw [if_pos hx] at K; exact K
  · rw [if_neg (fun w => hx (q.mp w)), ← Int64.ofInt_neg]; rw [if_neg hx] at K; exact K
theorem ai_mmaxl {p o : Nat} {x y : Int} (eo : am_ow j = o) (e1 : am_rm o p = (4, 0)) (e2 : (st.map fun v => v.category).sum ≤ 8) (K : am_run j C Q X r (pc + 3) (ls, .long (lZ (if y < x then x else y)) :: st, h, u)) (e : lR x ∧ lR y) : am_run j C Q X (.invokestatic p :: r) pc (ls, .long (lZ y) :: .long (lZ x) :: st, h, u) := by
  refine ap_mmaxl eo e1 e2 ?_
  have q := lZ_lt e.2 e.1
  by_cases hx : y < x
  · rw [if_pos (q.mpr hx)]; rw [if_pos hx] at K; exact K
  · rw [if_neg (fun w => hx (q.mp w))]; rw [if_neg hx] at K; exact K
theorem ai_mminl {p o : Nat} {x y : Int} (eo : am_ow j = o) (e1 : am_rm o p = (5, 0)) (e2 : (st.map fun v => v.category).sum ≤ 8) (K : am_run j C Q X r (pc + 3) (ls, .long (lZ (if y < x then y else x)) :: st, h, u)) (e : lR x ∧ lR y) : am_run j C Q X (.invokestatic p :: r) pc (ls, .long (lZ y) :: .long (lZ x) :: st, h, u) := by
  refine ap_mminl eo e1 e2 ?_
  have q := lZ_lt e.2 e.1
  by_cases hx : y < x
  · rw [if_pos (q.mpr hx)]; rw [if_pos hx] at K; exact K
  · rw [if_neg (fun w => hx (q.mp w))]; rw [if_neg hx] at K; exact K
end AIR
end
section
/-! BITS, as whole numbers -/
def b_shl (x n : Int) : Int := (iZ x <<< (iZ n &&& 31)).toInt
def b_shr (x n : Int) : Int := (iZ x >>> (iZ n &&& 31)).toInt
def b_and (x y : Int) : Int := (iZ x &&& iZ y).toInt
def b_or (x y : Int) : Int := (iZ x ||| iZ y).toInt
def w_shr (x n : Int) : Int := ((lZ x).toUInt64 >>> ((iZ n).toInt64.toUInt64 &&& Int64.toUInt64 63)).toInt64.toInt
def w_shl (x n : Int) : Int := (lZ x <<< ((iZ n).toInt64 &&& 63)).toInt
def w_and (x y : Int) : Int := (lZ x &&& lZ y).toInt
def w_or (x y : Int) : Int := (lZ x ||| lZ y).toInt
def w_xor (x y : Int) : Int := (lZ x ^^^ lZ y).toInt
theorem iR_T (x : Int32) : iR x.toInt := ⟨Int32.le_toInt x, Int32.toInt_lt x⟩
theorem lR_T (x : Int64) : lR x.toInt := ⟨Int64.le_toInt x, Int64.toInt_lt x⟩
section AIB
variable {j : Nat} {C : am_C} {Q : Option Value → am_H → Prop} {X : am_X} {r : List Jvm.ClassFile.Instr} {pc : Nat} {ls : am_L} {st : List Value} {h : am_H} {u : am_U}
theorem ai_ishl {x y : Int} (K : am_run j C Q X r (pc + 1) (ls, .int (iZ (b_shl x y)) :: st, h, u)) : am_run j C Q X (.ishl :: r) pc (ls, .int (iZ y) :: .int (iZ x) :: st, h, u) := ap_ishl (by rw [show iZ (b_shl x y) = _ from Int32.ofInt_toInt _] at K; exact K)
theorem ai_ishr {x y : Int} (K : am_run j C Q X r (pc + 1) (ls, .int (iZ (b_shr x y)) :: st, h, u)) : am_run j C Q X (.ishr :: r) pc (ls, .int (iZ y) :: .int (iZ x) :: st, h, u) := ap_ishr (by rw [show iZ (b_shr x y) = _ from Int32.ofInt_toInt _] at K; exact K)
theorem ai_iand {x y : Int} (K : am_run j C Q X r (pc + 1) (ls, .int (iZ (b_and x y)) :: st, h, u)) : am_run j C Q X (.iand :: r) pc (ls, .int (iZ y) :: .int (iZ x) :: st, h, u) := ap_iand (by rw [show iZ (b_and x y) = _ from Int32.ofInt_toInt _] at K; exact K)
theorem ai_ior {x y : Int} (K : am_run j C Q X r (pc + 1) (ls, .int (iZ (b_or x y)) :: st, h, u)) : am_run j C Q X (.ior :: r) pc (ls, .int (iZ y) :: .int (iZ x) :: st, h, u) := ap_ior (by rw [show iZ (b_or x y) = _ from Int32.ofInt_toInt _] at K; exact K)
theorem ai_lushr {x y : Int} (K : am_run j C Q X r (pc + 1) (ls, .long (lZ (w_shr x y)) :: st, h, u)) : am_run j C Q X (.lushr :: r) pc (ls, .int (iZ y) :: .long (lZ x) :: st, h, u) := ap_lushr (by rw [show lZ (w_shr x y) = _ from Int64.ofInt_toInt _] at K; exact K)
theorem ai_lshl {x y : Int} (K : am_run j C Q X r (pc + 1) (ls, .long (lZ (w_shl x y)) :: st, h, u)) : am_run j C Q X (.lshl :: r) pc (ls, .int (iZ y) :: .long (lZ x) :: st, h, u) := ap_lshl (by rw [show lZ (w_shl x y) = _ from Int64.ofInt_toInt _] at K; exact K)
theorem ai_land {x y : Int} (K : am_run j C Q X r (pc + 1) (ls, .long (lZ (w_and x y)) :: st, h, u)) : am_run j C Q X (.land :: r) pc (ls, .long (lZ y) :: .long (lZ x) :: st, h, u) := ap_land (by rw [show lZ (w_and x y) = _ from Int64.ofInt_toInt _] at K; exact K)
theorem ai_lor {x y : Int} (K : am_run j C Q X r (pc + 1) (ls, .long (lZ (w_or x y)) :: st, h, u)) : am_run j C Q X (.lor :: r) pc (ls, .long (lZ y) :: .long (lZ x) :: st, h, u) := ap_lor (by rw [show lZ (w_or x y) = _ from Int64.ofInt_toInt _] at K; exact K)
theorem ai_lxor {x y : Int} (K : am_run j C Q X r (pc + 1) (ls, .long (lZ (w_xor x y)) :: st, h, u)) : am_run j C Q X (.lxor :: r) pc (ls, .long (lZ y) :: .long (lZ x) :: st, h, u) := ap_lxor (by rw [show lZ (w_xor x y) = _ from Int64.ofInt_toInt _] at K; exact K)
/-- a switch of two cases by keys -/
theorem ai_lsw2 {a oa b ob dd x : Int} {ta tb td : Nat} (ea : am_tg pc oa = ta) (eb : am_tg pc ob = tb) (ed : am_tg pc dd = td) (ka : x = a → X ta ls st h u) (kb : x = b → X tb ls st h u) (kd : ¬ x = a → ¬ x = b → X td ls st h u) (er : iR x) : am_run j C Q X (.lookupswitch dd #[(a, oa), (b, ob)] :: r) pc (ls, .int (iZ x) :: st, h, u) := by
  subst ea; subst eb; subst ed
  refine ⟨trivial, ?_⟩
  show X (am_tg pc (Op.lookupswitch.offset [(a, oa), (b, ob)] dd (iZ x).toInt)) ls st h u
  rw [iZ_T er, Op.lookupswitch.offset_cons, Op.lookupswitch.offset_cons, Op.lookupswitch.offset_nil]
  by_cases h1 : a = x
  · rw [if_pos h1]; exact ka h1.symm
  · rw [if_neg h1]
    by_cases h2 : b = x
    · rw [if_pos h2]; exact kb h2.symm
    · rw [if_neg h2]; exact kd (fun q => h1 q.symm) (fun q => h2 q.symm)
/-- a switch of three cases, 0, 1, 2 -/
theorem ai_tsw3 {o0 o1 o2 dd x : Int} {t0 t1 t2 td : Nat} (e0 : am_tg pc o0 = t0) (e1 : am_tg pc o1 = t1) (e2 : am_tg pc o2 = t2) (ed : am_tg pc dd = td) (k0 : x = 0 → X t0 ls st h u) (k1 : x = 1 → X t1 ls st h u) (k2 : x = 2 → X t2 ls st h u) (kd : (x < 0 ∨ 2 < x) → X td ls st h u) (er : iR x) : am_run j C Q X (.tableswitch dd 0 2 #[o0, o1, o2] :: r) pc (ls, .int (iZ x) :: st, h, u) := by
  subst e0; subst e1; subst e2; subst ed
  refine ⟨trivial, ?_⟩
  show X (if (iZ x).toInt < 0 ∨ 2 < (iZ x).toInt then _ else am_tg pc ([o0, o1, o2].getD ((iZ x).toInt - 0).toNat dd)) ls st h u
  rw [iZ_T er]
  by_cases hz : x < 0 ∨ 2 < x
  · rw [if_pos hz]; exact kd hz
  · rw [if_neg hz]
    rcases (show x = 0 ∨ x = 1 ∨ x = 2 by omega) with rfl | rfl | rfl
    · exact k0 rfl
    · exact k1 rfl
    · exact k2 rfl
end AIB
theorem b_and1 (x : Int) : b_and x 1 = 0 ∨ b_and x 1 = 1 := by
  unfold b_and
  generalize iZ x = y
  have h : (y &&& iZ 1).toBitVec = y.toBitVec &&& 1#32 := rfl
  have h2 : (y.toBitVec &&& 1#32).toNat < 2 := by
    rw [BitVec.toNat_and]
    exact Nat.lt_of_le_of_lt Nat.and_le_right (by decide)
  have h3 : (y &&& iZ 1).toInt = ((y.toBitVec &&& 1#32).toNat : Int) := by
    show (y &&& iZ 1).toBitVec.toInt = _
    rw [h, BitVec.toInt_eq_toNat_of_lt (by omega)]
  omega
theorem b_and7 : ∀ a : Nat, a < 8 → ∀ b : Nat, b < 8 → b_and ((a : Int) - b) 7 = ((a : Int) - b) % 8 := by decide +kernel
/-- bit s of a word -/
def w_bit (x : Int) (s : Nat) : Bool := (lZ x).toBitVec.getLsbD s
theorem w_cnt : ∀ k : Nat, k < 64 → ((iZ (k : Int)).toInt64.toUInt64 &&& Int64.toUInt64 63).toNat = k := by decide +kernel
theorem w_sh1 : ∀ k : Nat, k < 64 → (lZ 1 <<< ((iZ (k : Int)).toInt64 &&& 63)).toBitVec = BitVec.twoPow 64 k := by decide +kernel
theorem w_bit_t {x : Int} {s : Nat} (hs : s < 64) : w_and (w_shr x s) 1 = 0 ↔ w_bit x s = false := by
  unfold w_and w_shr w_bit
  rw [show lZ (((lZ x).toUInt64 >>> ((iZ (s : Int)).toInt64.toUInt64 &&& Int64.toUInt64 63)).toInt64.toInt) = _ from Int64.ofInt_toInt _]
  generalize lZ x = w
  have hz := w_cnt s hs
  generalize (iZ (s : Int)).toInt64.toUInt64 &&& Int64.toUInt64 63 = c at hz
  have e : (w.toUInt64 >>> c).toInt64.toBitVec = w.toBitVec >>> s := by
    apply BitVec.eq_of_toNat_eq
    show (w.toUInt64 >>> c).toNat = _
    rw [UInt64.toNat_shiftRight, hz, Nat.mod_eq_of_lt hs, BitVec.toNat_ushiftRight]
    rfl
  have e2 : ((w.toUInt64 >>> c).toInt64 &&& lZ 1).toBitVec = (w.toBitVec >>> s) &&& 1#64 := by
    rw [Int64.toBitVec_and, e]; rfl
  have e3 : ((w.toUInt64 >>> c).toInt64 &&& lZ 1).toInt = 0 ↔ (w.toBitVec >>> s) &&& 1#64 = 0#64 := by
    rw [← e2]
    constructor
    · intro q
      have : (w.toUInt64 >>> c).toInt64 &&& lZ 1 = 0 := Int64.toInt_inj.mp q
      rw [this]; rfl
    · intro q
      have : (w.toUInt64 >>> c).toInt64 &&& lZ 1 = 0 := Int64.toBitVec_inj.mp q
      rw [this]; rfl
  rw [e3]
  constructor
  · intro q
    have t := congrArg (fun z => z.getLsbD 0) q
    simpa using t
  · intro q
    apply BitVec.eq_of_getLsbD_eq
    intro i hi
    by_cases h0 : i = 0
    · subst h0; simpa using q
    · simp [h0]
theorem w_flip {x : Int} {s t : Nat} (hs : s < 64) (ht : t < 64) : w_bit (w_xor x (w_shl 1 s)) t = (if t = s then !(w_bit x t) else w_bit x t) := by
  unfold w_xor w_shl w_bit
  rw [show lZ ((lZ 1 <<< ((iZ (s : Int)).toInt64 &&& 63)).toInt) = _ from Int64.ofInt_toInt _, show lZ ((lZ x ^^^ (lZ 1 <<< ((iZ (s : Int)).toInt64 &&& 63))).toInt) = _ from Int64.ofInt_toInt _, Int64.toBitVec_xor, w_sh1 s hs, BitVec.getLsbD_xor, BitVec.getLsbD_twoPow]
  by_cases h : t = s
  · subst h; simp [ht]
  · have : ¬ s = t := fun q => h q.symm
    simp [h, this]
end
section
/-! THE SHAPE of the heap behind the constructors: the cells' kinds, the references -/
def sh_ltL : List (Nat × Nat) := [(10, 0), (6, 0), (2, 61), (2, 61), (2, 61), (7, 0), (0, 121), (0, 121), (2, 121), (2, 121), (0, 121), (2, 121), (2, 121), (2, 242), (9, 0), (3, 0), (2, 2541), (0, 2541), (0, 2542), (2, 121), (0, 121), (2, 61), (0, 121), (2, 21), (5, 0), (0, 3), (4, 0), (8, 0), (0, 2400), (8, 0), (0, 2400), (11, 0), (2, 61), (2, 61), (2, 61), (0, 121), (0, 121), (2, 121), (2, 121), (0, 121), (2, 121), (2, 121), (1, 14641), (2, 2541), (0, 2541), (1, 2541), (1, 2541), (0, 2600), (1, 2600), (0, 2600), (2, 21), (0, 3), (2, 1)]
def sh_lt (L : Nat) (k : Nat) : Nat × Nat := if k = 1000 then (97, L) else sh_ltL.getD k (0, 0)
def sh_rt (sw : Bool) (a k : Nat) : Nat := match a with
  | 0 => [2, 6, 15, 25, 27, if sw then 30 else 28, if sw then 28 else 30].getD k 0
  | 1 => [3, 4, 5].getD k 0
  | 5 => [7, 8, 9, 10, 11, 12, 13, 14].getD k 0
  | 14 => [2, 6, 16, 20, 21, 22, 23, 24].getD k 0
  | 15 => [17, 18, 19].getD k 0
  | 24 => [26].getD k 0
  | 27 => [29].getD k 0
  | 29 => [31].getD k 0
  | 31 => [0, 0, 33, 34, 35, 0, 36, 37, 38, 39, 40, 41, 42, 43, 0, 0, 0, 0, 0, 44, 45, 46, 47, 0, 48, 0, 49, 0, 50, 0, 0, 51, 0, 52, 0, 0].getD k 0
  | _ => 0
end
section
/-! LEAVES of the class -/
theorem sq {Q : Option Value → am_H → Prop} {h : am_H} {a b : Int} (K : Q (some (.int (iZ b))) h) (e : a = b) : Q (some (.int (iZ a))) h := e ▸ K
theorem sql {Q : Option Value → am_H → Prop} {h : am_H} {a b : Int} (K : Q (some (.long (lZ b))) h) (e : a = b) : Q (some (.long (lZ a))) h := e ▸ K

theorem sp_81 {d L : Nat} {sw : Bool} {f g : Nat → Nat → Int} {Q : Option Value → am_H → Prop}  (K : Q (some (.int (iZ (f 1 3)))) (53, sh_lt L, iH f, jH g, sh_rt sw))  : am_call (d + 1) 81 [.ref 1] (53, sh_lt L, iH f, jH g, sh_rt sw) Q := by
  refine ap_call (by decide) (Nat.le_of_ble_eq_true rfl) rfl ?_
  refine ap_go kc_81_0 ?_
  refine ap_aload_n rfl ?_; refine ai_getI ow_81 rf_3_21 rfl rfl ?_; refine ap_iret rfl ?_
  exact K

theorem sp_82 {d L : Nat} {sw : Bool} {f g : Nat → Nat → Int} {Q : Option Value → am_H → Prop} {n : Int} (K : Q (some (.int (iZ (if 1 ≤ n ∧ n ≤ f 1 3 then 1 else 0)))) (53, sh_lt L, iH f, jH g, sh_rt sw)) (hn : iR n) (hc : iR (f 1 3)) : am_call (d + 1) 82 [.ref 1, .int (iZ n)] (53, sh_lt L, iH f, jH g, sh_rt sw) Q := by
  refine ap_call (by decide) (Nat.le_of_ble_eq_true rfl) rfl ?_
  refine ap_go kc_82_0 ?_
  refine ap_iload_n rfl ?_; refine ai_iconst ?_
  refine ai_iclt rfl rfl (fun hc0 => ?_) (fun hc0 => ?_) ?_
  · refine ap_go kc_82_17 ?_
    refine ai_iconst ?_; refine ap_nil ?_
    refine ap_go kc_82_18 ?_
    refine ai_zret rfl ?_ ?_
    · exact sq K (by first | rfl | omega | (split <;> omega) | (split <;> split <;> omega))
    all_goals (omega)
  · refine ap_go kc_82_5 ?_
    refine ap_iload_n rfl ?_; refine ap_aload_n rfl ?_; refine ai_getI ow_82 rf_3_21 rfl rfl ?_
    refine ai_icgt rfl rfl (fun hc1 => ?_) (fun hc1 => ?_) ?_
    · refine ap_go kc_82_17 ?_
      refine ai_iconst ?_; refine ap_nil ?_
      refine ap_go kc_82_18 ?_
      refine ai_zret rfl ?_ ?_
      · exact sq K (by first | rfl | omega | (split <;> omega) | (split <;> split <;> omega))
      all_goals (omega)
    · refine ap_go kc_82_13 ?_
      refine ai_iconst ?_; refine ap_goto rfl ?_
      refine ap_go kc_82_18 ?_
      refine ai_zret rfl ?_ ?_
      · exact sq K (by first | rfl | omega | (split <;> omega) | (split <;> split <;> omega))
      all_goals (omega)
    all_goals (omega)
  all_goals (omega)

theorem sp_83 {d L : Nat} {sw : Bool} {f g : Nat → Nat → Int} {Q : Option Value → am_H → Prop}  (K : Q (some (.int (iZ (if 60 ≤ f 1 3 then 1 else 0)))) (53, sh_lt L, iH f, jH g, sh_rt sw)) (hc : iR (f 1 3)) : am_call (d + 1) 83 [.ref 1] (53, sh_lt L, iH f, jH g, sh_rt sw) Q := by
  refine ap_call (by decide) (Nat.le_of_ble_eq_true rfl) rfl ?_
  refine ap_go kc_83_0 ?_
  refine ap_aload_n rfl ?_; refine ai_getI ow_83 rf_3_21 rfl rfl ?_; refine ai_bipush (by decide) ?_
  refine ai_iclt rfl rfl (fun hc0 => ?_) (fun hc0 => ?_) ?_
  · refine ap_go kc_83_13 ?_
    refine ai_iconst ?_; refine ap_nil ?_
    refine ap_go kc_83_14 ?_
    refine ai_zret rfl ?_ ?_
    · exact sq K (by first | rfl | omega | (split <;> omega) | (split <;> split <;> omega))
    all_goals (omega)
  · refine ap_go kc_83_9 ?_
    refine ai_iconst ?_; refine ap_goto rfl ?_
    refine ap_go kc_83_14 ?_
    refine ai_zret rfl ?_ ?_
    · exact sq K (by first | rfl | omega | (split <;> omega) | (split <;> split <;> omega))
    all_goals (omega)
  all_goals (omega)

theorem sp_84 {d L : Nat} {sw : Bool} {f g : Nat → Nat → Int} {Q : Option Value → am_H → Prop} {x y : Int} (K : Q (some (.int (iZ (f 1 3 + 1)))) (53, sh_lt L, iH (am_up f 1 3 (f 1 3 + 1)), jH (am_up (am_up g 2 (f 1 3 + 1).toNat x) 3 (f 1 3 + 1).toNat y), sh_rt sw)) (hc : 0 ≤ f 1 3 ∧ f 1 3 < 60) : am_call (d + 1) 84 [.ref 1, .long (lZ x), .long (lZ y)] (53, sh_lt L, iH f, jH g, sh_rt sw) Q := by
  refine ap_call (by decide) (Nat.le_of_ble_eq_true rfl) rfl ?_
  refine ap_go kc_84_0 ?_
  refine ap_aload_n rfl ?_; refine ap_dup rfl ?_; refine ai_getI ow_84 rf_3_21 rfl rfl ?_; refine ai_iconst ?_; refine ai_iadd ?_; refine ai_putI ow_84 rf_3_21 rfl rfl rfl ?_; refine ap_aload_n rfl ?_; refine ap_getR ow_84 rf_3_9 rfl rfl rfl ?_; refine ap_aload_n rfl ?_; refine ai_getI ow_84 rf_3_21 rfl rfl ?_; refine ap_lload_n rfl ?_; refine ai_lastore (n := 61) rfl rfl (by decide) ?_ ?_; refine ap_aload_n rfl ?_; refine ap_getR ow_84 rf_3_15 rfl rfl rfl ?_; refine ap_aload_n rfl ?_; refine ai_getI ow_84 rf_3_21 rfl rfl ?_; refine ap_lload_n rfl ?_; refine ai_lastore (n := 61) rfl rfl (by decide) ?_ ?_; refine ap_aload_n rfl ?_; refine ai_getI ow_84 rf_3_21 rfl rfl ?_; refine ap_iret rfl ?_
  · exact K
  all_goals (simp [am_up]; omega)

theorem sp_85 {d L : Nat} {sw : Bool} {f g : Nat → Nat → Int} {Q : Option Value → am_H → Prop} {n : Int} (K : Q (some (.long (lZ (g 2 n.toNat)))) (53, sh_lt L, iH f, jH g, sh_rt sw)) (hn : 0 ≤ n ∧ n < 61) : am_call (d + 1) 85 [.ref 1, .int (iZ n)] (53, sh_lt L, iH f, jH g, sh_rt sw) Q := by
  refine ap_call (by decide) (Nat.le_of_ble_eq_true rfl) rfl ?_
  refine ap_go kc_85_0 ?_
  refine ap_aload_n rfl ?_; refine ap_getR ow_85 rf_3_9 rfl rfl rfl ?_; refine ap_iload_n rfl ?_; refine ai_laload (n := 61) rfl rfl (by decide) ?_ ?_; refine ap_lret rfl ?_
  · exact K
  all_goals (omega)

theorem sp_86 {d L : Nat} {sw : Bool} {f g : Nat → Nat → Int} {Q : Option Value → am_H → Prop} {n : Int} (K : Q (some (.long (lZ (g 3 n.toNat)))) (53, sh_lt L, iH f, jH g, sh_rt sw)) (hn : 0 ≤ n ∧ n < 61) : am_call (d + 1) 86 [.ref 1, .int (iZ n)] (53, sh_lt L, iH f, jH g, sh_rt sw) Q := by
  refine ap_call (by decide) (Nat.le_of_ble_eq_true rfl) rfl ?_
  refine ap_go kc_86_0 ?_
  refine ap_aload_n rfl ?_; refine ap_getR ow_86 rf_3_15 rfl rfl rfl ?_; refine ap_iload_n rfl ?_; refine ai_laload (n := 61) rfl rfl (by decide) ?_ ?_; refine ap_lret rfl ?_
  · exact K
  all_goals (omega)

theorem sp_87 {d L : Nat} {sw : Bool} {f g : Nat → Nat → Int} {Q : Option Value → am_H → Prop} {a b : Int} (K : Q (some (.long (lZ ((g 2 a.toNat - g 2 b.toNat) * (g 2 a.toNat - g 2 b.toNat) + (g 3 a.toNat - g 3 b.toNat) * (g 3 a.toNat - g 3 b.toNat))))) (53, sh_lt L, iH f, jH g, sh_rt sw)) (ha : 0 ≤ a ∧ a < 61) (hb : 0 ≤ b ∧ b < 61) : am_call (d + 1) 87 [.ref 1, .int (iZ a), .int (iZ b)] (53, sh_lt L, iH f, jH g, sh_rt sw) Q := by
  refine ap_call (by decide) (Nat.le_of_ble_eq_true rfl) rfl ?_
  refine ap_go kc_87_0 ?_
  refine ap_aload_n rfl ?_; refine ap_getR ow_87 rf_3_9 rfl rfl rfl ?_; refine ap_iload_n rfl ?_; refine ai_laload (n := 61) rfl rfl (by decide) ?_ ?_; refine ap_aload_n rfl ?_; refine ap_getR ow_87 rf_3_9 rfl rfl rfl ?_; refine ap_iload_n rfl ?_; refine ai_laload (n := 61) rfl rfl (by decide) ?_ ?_; refine ai_lsub ?_; refine ap_lstore_n rfl ?_; refine ap_aload_n rfl ?_; refine ap_getR ow_87 rf_3_15 rfl rfl rfl ?_; refine ap_iload_n rfl ?_; refine ai_laload (n := 61) rfl rfl (by decide) ?_ ?_; refine ap_aload_n rfl ?_; refine ap_getR ow_87 rf_3_15 rfl rfl rfl ?_; refine ap_iload_n rfl ?_; refine ai_laload (n := 61) rfl rfl (by decide) ?_ ?_; refine ai_lsub ?_; refine ap_lstore rfl ?_; refine ap_lload_n rfl ?_; refine ap_lload_n rfl ?_; refine ai_lmul ?_; refine ap_lload rfl ?_; refine ap_lload rfl ?_; refine ai_lmul ?_; refine ai_ladd ?_; refine ap_lret rfl ?_
  · exact K
  all_goals (omega)

theorem sp_88 {d L : Nat} {sw : Bool} {f g : Nat → Nat → Int} {Q : Option Value → am_H → Prop} {n p : Int} (K : Q none (53, sh_lt L, iH f, jH (am_up g 4 n.toNat p), sh_rt sw)) (hn : 0 ≤ n ∧ n < 61) : am_call (d + 1) 88 [.ref 1, .int (iZ n), .long (lZ p)] (53, sh_lt L, iH f, jH g, sh_rt sw) Q := by
  refine ap_call (by decide) (Nat.le_of_ble_eq_true rfl) rfl ?_
  refine ap_go kc_88_0 ?_
  refine ap_aload_n rfl ?_; refine ap_getR ow_88 rf_3_18 rfl rfl rfl ?_; refine ap_iload_n rfl ?_; refine ap_lload_n rfl ?_; refine ai_lastore (n := 61) rfl rfl (by decide) ?_ ?_; refine ap_vret rfl ?_
  · exact K
  all_goals (omega)

theorem sp_89 {d L : Nat} {sw : Bool} {f g : Nat → Nat → Int} {Q : Option Value → am_H → Prop} {n : Int} (K : Q (some (.int (iZ (if 0 < g 4 n.toNat then 1 else 0)))) (53, sh_lt L, iH f, jH g, sh_rt sw)) (hn : 0 ≤ n ∧ n < 61) (hr : lR (g 4 n.toNat)) : am_call (d + 1) 89 [.ref 1, .int (iZ n)] (53, sh_lt L, iH f, jH g, sh_rt sw) Q := by
  refine ap_call (by decide) (Nat.le_of_ble_eq_true rfl) rfl ?_
  refine ap_go kc_89_0 ?_
  refine ap_aload_n rfl ?_; refine ap_getR ow_89 rf_3_18 rfl rfl rfl ?_; refine ap_iload_n rfl ?_; refine ai_laload (n := 61) rfl rfl (by decide) ?_ ?_; refine ai_lconst 0 rfl ?_
  refine ai_lcle rfl rfl (fun hc0 => ?_) (fun hc0 => ?_) ?_
  · refine ap_go kc_89_15 ?_
    refine ai_iconst ?_; refine ap_nil ?_
    refine ap_go kc_89_16 ?_
    refine ai_zret rfl ?_ ?_
    · exact sq K (by first | rfl | omega | (split <;> omega) | (split <;> split <;> omega))
    all_goals (omega)
  · refine ap_go kc_89_11 ?_
    refine ai_iconst ?_; refine ap_goto rfl ?_
    refine ap_go kc_89_16 ?_
    refine ai_zret rfl ?_ ?_
    · exact sq K (by first | rfl | omega | (split <;> omega) | (split <;> split <;> omega))
    all_goals (omega)
  all_goals (omega)

theorem sp_90 {d L : Nat} {sw : Bool} {f g : Nat → Nat → Int} {Q : Option Value → am_H → Prop} {n : Int} (K : Q (some (.long (lZ (if 0 < g 4 n.toNat then (if 1000 / g 4 n.toNat < 1 then 1 else 1000 / g 4 n.toNat) else 0)))) (53, sh_lt L, iH f, jH g, sh_rt sw)) (hn : 0 ≤ n ∧ n < 61) (hr : lR (g 4 n.toNat)) : am_call (d + 1) 90 [.ref 1, .int (iZ n)] (53, sh_lt L, iH f, jH g, sh_rt sw) Q := by
  refine ap_call (by decide) (Nat.le_of_ble_eq_true rfl) rfl ?_
  refine ap_go kc_90_0 ?_
  refine ap_aload_n rfl ?_; refine ap_getR ow_90 rf_3_18 rfl rfl rfl ?_; refine ap_iload_n rfl ?_; refine ai_laload (n := 61) rfl rfl (by decide) ?_ ?_; refine ap_lstore_n rfl ?_; refine ap_lload_n rfl ?_; refine ai_lconst 0 rfl ?_
  refine ai_lcle rfl rfl (fun hc0 => ?_) (fun hc0 => ?_) ?_
  · refine ap_go kc_90_25 ?_
    refine ai_lconst 0 rfl ?_; refine ap_nil ?_
    refine ap_go kc_90_26 ?_
    refine ap_lret rfl ?_
    first | (rw [if_pos (by omega)] at K; exact K) | (rw [if_neg (by omega)] at K; exact K)
  · refine ap_go kc_90_13 ?_
    refine ai_lconst 1 rfl ?_; refine ai_ldc2 (1000) ow_90 kl_3_25 rfl ?_; refine ap_lload_n rfl ?_; refine ai_ldiv ?_ ?_; refine ai_mmaxl ow_90 rm_3_27 (Nat.le_of_ble_eq_true rfl) ?_ ?_; refine ap_goto rfl ?_
    · refine ap_go kc_90_26 ?_
      refine ap_lret rfl ?_
      first | (rw [if_pos (by omega)] at K; exact K) | (rw [if_neg (by omega)] at K; exact K)
    all_goals (first | omega | (have q1 := Int.ediv_nonneg (a := 1000) (b := g 4 n.toNat) (by omega) (by omega); have q2 := Int.ediv_le_self (a := 1000) (g 4 n.toNat) (by omega); omega))
  all_goals (first | omega | (have q1 := Int.ediv_nonneg (a := 1000) (b := g 4 n.toNat) (by omega) (by omega); have q2 := Int.ediv_le_self (a := 1000) (g 4 n.toNat) (by omega); omega))

theorem sp_93 {d L : Nat} {sw : Bool} {f g : Nat → Nat → Int} {Q : Option Value → am_H → Prop}  (K : Q (some (.int (iZ (f 5 8)))) (53, sh_lt L, iH f, jH g, sh_rt sw))  : am_call (d + 1) 93 [.ref 5] (53, sh_lt L, iH f, jH g, sh_rt sw) Q := by
  refine ap_call (by decide) (Nat.le_of_ble_eq_true rfl) rfl ?_
  refine ap_go kc_93_0 ?_
  refine ap_aload_n rfl ?_; refine ai_getI ow_93 rf_4_37 rfl rfl ?_; refine ap_iret rfl ?_
  exact K

theorem sp_94 {d L : Nat} {sw : Bool} {f g : Nat → Nat → Int} {Q : Option Value → am_H → Prop} {n : Int} (K : Q (some (.int (iZ (if 1 ≤ n ∧ n ≤ f 5 8 then 1 else 0)))) (53, sh_lt L, iH f, jH g, sh_rt sw)) (hn : iR n) (hc : iR (f 5 8)) : am_call (d + 1) 94 [.ref 5, .int (iZ n)] (53, sh_lt L, iH f, jH g, sh_rt sw) Q := by
  refine ap_call (by decide) (Nat.le_of_ble_eq_true rfl) rfl ?_
  refine ap_go kc_94_0 ?_
  refine ap_iload_n rfl ?_; refine ai_iconst ?_
  refine ai_iclt rfl rfl (fun hc0 => ?_) (fun hc0 => ?_) ?_
  · refine ap_go kc_94_17 ?_
    refine ai_iconst ?_; refine ap_nil ?_
    refine ap_go kc_94_18 ?_
    refine ai_zret rfl ?_ ?_
    · exact sq K (by first | rfl | omega | (split <;> omega) | (split <;> split <;> omega))
    all_goals (omega)
  · refine ap_go kc_94_5 ?_
    refine ap_iload_n rfl ?_; refine ap_aload_n rfl ?_; refine ai_getI ow_94 rf_4_37 rfl rfl ?_
    refine ai_icgt rfl rfl (fun hc1 => ?_) (fun hc1 => ?_) ?_
    · refine ap_go kc_94_17 ?_
      refine ai_iconst ?_; refine ap_nil ?_
      refine ap_go kc_94_18 ?_
      refine ai_zret rfl ?_ ?_
      · exact sq K (by first | rfl | omega | (split <;> omega) | (split <;> split <;> omega))
      all_goals (omega)
    · refine ap_go kc_94_13 ?_
      refine ai_iconst ?_; refine ap_goto rfl ?_
      refine ap_go kc_94_18 ?_
      refine ai_zret rfl ?_ ?_
      · exact sq K (by first | rfl | omega | (split <;> omega) | (split <;> split <;> omega))
      all_goals (omega)
    all_goals (omega)
  all_goals (omega)

theorem sp_95 {d L : Nat} {sw : Bool} {f g : Nat → Nat → Int} {Q : Option Value → am_H → Prop}  (K : Q (some (.int (iZ (if 120 ≤ f 5 8 then 1 else 0)))) (53, sh_lt L, iH f, jH g, sh_rt sw)) (hc : iR (f 5 8)) : am_call (d + 1) 95 [.ref 5] (53, sh_lt L, iH f, jH g, sh_rt sw) Q := by
  refine ap_call (by decide) (Nat.le_of_ble_eq_true rfl) rfl ?_
  refine ap_go kc_95_0 ?_
  refine ap_aload_n rfl ?_; refine ai_getI ow_95 rf_4_37 rfl rfl ?_; refine ai_bipush (by decide) ?_
  refine ai_iclt rfl rfl (fun hc0 => ?_) (fun hc0 => ?_) ?_
  · refine ap_go kc_95_13 ?_
    refine ai_iconst ?_; refine ap_nil ?_
    refine ap_go kc_95_14 ?_
    refine ai_zret rfl ?_ ?_
    · exact sq K (by first | rfl | omega | (split <;> omega) | (split <;> split <;> omega))
    all_goals (omega)
  · refine ap_go kc_95_9 ?_
    refine ai_iconst ?_; refine ap_goto rfl ?_
    refine ap_go kc_95_14 ?_
    refine ai_zret rfl ?_ ?_
    · exact sq K (by first | rfl | omega | (split <;> omega) | (split <;> split <;> omega))
    all_goals (omega)
  all_goals (omega)

theorem sp_96 {d L : Nat} {sw : Bool} {f g : Nat → Nat → Int} {Q : Option Value → am_H → Prop} {a b m v c : Int} (K : Q (some (.int (iZ (f 5 8 + 1)))) (53, sh_lt L, iH (am_up (am_up (am_up (am_up f 5 8 (f 5 8 + 1)) 6 (f 5 8 + 1).toNat a) 7 (f 5 8 + 1).toNat b) 10 (f 5 8 + 1).toNat c), jH (am_up (am_up g 8 (f 5 8 + 1).toNat m) 9 (f 5 8 + 1).toNat v), sh_rt sw)) (hc : 0 ≤ f 5 8 ∧ f 5 8 < 120) : am_call (d + 1) 96 [.ref 5, .int (iZ a), .int (iZ b), .long (lZ m), .long (lZ v), .int (iZ c)] (53, sh_lt L, iH f, jH g, sh_rt sw) Q := by
  refine ap_call (by decide) (Nat.le_of_ble_eq_true rfl) rfl ?_
  refine ap_go kc_96_0 ?_
  refine ap_aload_n rfl ?_; refine ap_dup rfl ?_; refine ai_getI ow_96 rf_4_37 rfl rfl ?_; refine ai_iconst ?_; refine ai_iadd ?_; refine ai_putI ow_96 rf_4_37 rfl rfl rfl ?_; refine ap_aload_n rfl ?_; refine ap_getR ow_96 rf_4_9 rfl rfl rfl ?_; refine ap_aload_n rfl ?_; refine ai_getI ow_96 rf_4_37 rfl rfl ?_; refine ap_iload_n rfl ?_; refine ai_iastore (n := 121) rfl rfl (by decide) ?_ ?_; refine ap_aload_n rfl ?_; refine ap_getR ow_96 rf_4_15 rfl rfl rfl ?_; refine ap_aload_n rfl ?_; refine ai_getI ow_96 rf_4_37 rfl rfl ?_; refine ap_iload_n rfl ?_; refine ai_iastore (n := 121) rfl rfl (by decide) ?_ ?_; refine ap_aload_n rfl ?_; refine ap_getR ow_96 rf_4_18 rfl rfl rfl ?_; refine ap_aload_n rfl ?_; refine ai_getI ow_96 rf_4_37 rfl rfl ?_; refine ap_lload_n rfl ?_; refine ai_lastore (n := 121) rfl rfl (by decide) ?_ ?_; refine ap_aload_n rfl ?_; refine ap_getR ow_96 rf_4_22 rfl rfl rfl ?_; refine ap_aload_n rfl ?_; refine ai_getI ow_96 rf_4_37 rfl rfl ?_; refine ap_lload rfl ?_; refine ai_lastore (n := 121) rfl rfl (by decide) ?_ ?_; refine ap_aload_n rfl ?_; refine ap_getR ow_96 rf_4_25 rfl rfl rfl ?_; refine ap_aload_n rfl ?_; refine ai_getI ow_96 rf_4_37 rfl rfl ?_; refine ap_iload rfl ?_; refine ai_iastore (n := 121) rfl rfl (by decide) ?_ ?_; refine ap_aload_n rfl ?_; refine ai_getI ow_96 rf_4_37 rfl rfl ?_; refine ap_iret rfl ?_
  · exact K
  all_goals (simp [am_up]; omega)

theorem sp_97 {d L : Nat} {sw : Bool} {f g : Nat → Nat → Int} {Q : Option Value → am_H → Prop} {n : Int} (K : Q none (53, sh_lt L, iH (am_up f 7 0 n), jH g, sh_rt sw))  : am_call (d + 1) 97 [.ref 5, .int (iZ n)] (53, sh_lt L, iH f, jH g, sh_rt sw) Q := by
  refine ap_call (by decide) (Nat.le_of_ble_eq_true rfl) rfl ?_
  refine ap_go kc_97_0 ?_
  refine ap_aload_n rfl ?_; refine ap_getR ow_97 rf_4_15 rfl rfl rfl ?_; refine ai_iconst ?_; refine ap_iload_n rfl ?_; refine ai_iastore (n := 121) rfl rfl (by decide) ?_ ?_; refine ap_vret rfl ?_
  · exact K
  all_goals (omega)

theorem sp_98 {d L : Nat} {sw : Bool} {f g : Nat → Nat → Int} {Q : Option Value → am_H → Prop} {n : Int} (K : Q (some (.int (iZ (f 6 n.toNat)))) (53, sh_lt L, iH f, jH g, sh_rt sw)) (hn : 0 ≤ n ∧ n < 121) : am_call (d + 1) 98 [.ref 5, .int (iZ n)] (53, sh_lt L, iH f, jH g, sh_rt sw) Q := by
  refine ap_call (by decide) (Nat.le_of_ble_eq_true rfl) rfl ?_
  refine ap_go kc_98_0 ?_
  refine ap_aload_n rfl ?_; refine ap_getR ow_98 rf_4_9 rfl rfl rfl ?_; refine ap_iload_n rfl ?_; refine ai_iaload (n := 121) rfl rfl (by decide) ?_ ?_; refine ap_iret rfl ?_
  · exact K
  all_goals (omega)

theorem sp_99 {d L : Nat} {sw : Bool} {f g : Nat → Nat → Int} {Q : Option Value → am_H → Prop} {n : Int} (K : Q (some (.int (iZ (f 7 n.toNat)))) (53, sh_lt L, iH f, jH g, sh_rt sw)) (hn : 0 ≤ n ∧ n < 121) : am_call (d + 1) 99 [.ref 5, .int (iZ n)] (53, sh_lt L, iH f, jH g, sh_rt sw) Q := by
  refine ap_call (by decide) (Nat.le_of_ble_eq_true rfl) rfl ?_
  refine ap_go kc_99_0 ?_
  refine ap_aload_n rfl ?_; refine ap_getR ow_99 rf_4_15 rfl rfl rfl ?_; refine ap_iload_n rfl ?_; refine ai_iaload (n := 121) rfl rfl (by decide) ?_ ?_; refine ap_iret rfl ?_
  · exact K
  all_goals (omega)

theorem sp_100 {d L : Nat} {sw : Bool} {f g : Nat → Nat → Int} {Q : Option Value → am_H → Prop} {n : Int} (K : Q (some (.long (lZ (g 8 n.toNat)))) (53, sh_lt L, iH f, jH g, sh_rt sw)) (hn : 0 ≤ n ∧ n < 121) : am_call (d + 1) 100 [.ref 5, .int (iZ n)] (53, sh_lt L, iH f, jH g, sh_rt sw) Q := by
  refine ap_call (by decide) (Nat.le_of_ble_eq_true rfl) rfl ?_
  refine ap_go kc_100_0 ?_
  refine ap_aload_n rfl ?_; refine ap_getR ow_100 rf_4_18 rfl rfl rfl ?_; refine ap_iload_n rfl ?_; refine ai_laload (n := 121) rfl rfl (by decide) ?_ ?_; refine ap_lret rfl ?_
  · exact K
  all_goals (omega)

theorem sp_101 {d L : Nat} {sw : Bool} {f g : Nat → Nat → Int} {Q : Option Value → am_H → Prop} {n : Int} (K : Q (some (.int (iZ (1 + g 8 n.toNat * (1 + f 10 n.toNat) / 20000)))) (53, sh_lt L, iH f, jH g, sh_rt sw)) (hn : 0 ≤ n ∧ n < 121) (h1 : iR (f 10 n.toNat)) (h2 : 0 ≤ g 8 n.toNat * (1 + f 10 n.toNat) ∧ g 8 n.toNat * (1 + f 10 n.toNat) < 9223372036854775808) : am_call (d + 1) 101 [.ref 5, .int (iZ n)] (53, sh_lt L, iH f, jH g, sh_rt sw) Q := by
  refine ap_call (by decide) (Nat.le_of_ble_eq_true rfl) rfl ?_
  refine ap_go kc_101_0 ?_
  refine ai_lconst 1 rfl ?_; refine ap_aload_n rfl ?_; refine ap_getR ow_101 rf_4_18 rfl rfl rfl ?_; refine ap_iload_n rfl ?_; refine ai_laload (n := 121) rfl rfl (by decide) ?_ ?_; refine ai_lconst 1 rfl ?_; refine ap_aload_n rfl ?_; refine ap_getR ow_101 rf_4_25 rfl rfl rfl ?_; refine ap_iload_n rfl ?_; refine ai_iaload (n := 121) rfl rfl (by decide) ?_ ?_; refine ai_i2l ?_ ?_; refine ai_ladd ?_; refine ai_lmul ?_; refine ai_ldc2 (20000) ow_101 kl_4_41 rfl ?_; refine ai_ldiv ?_ ?_; refine ai_ladd ?_; refine ai_l2i ?_; refine ap_iret rfl ?_
  · exact K
  all_goals (omega)

theorem sp_104 {d L : Nat} {sw : Bool} {f g : Nat → Nat → Int} {Q : Option Value → am_H → Prop} {n v w : Int} (K : Q none (53, sh_lt L, iH f, jH (am_up (am_up g 11 n.toNat v) 12 n.toNat w), sh_rt sw)) (hn : 0 ≤ n ∧ n < 121) : am_call (d + 1) 104 [.ref 5, .int (iZ n), .long (lZ v), .long (lZ w)] (53, sh_lt L, iH f, jH g, sh_rt sw) Q := by
  refine ap_call (by decide) (Nat.le_of_ble_eq_true rfl) rfl ?_
  refine ap_go kc_104_0 ?_
  refine ap_aload_n rfl ?_; refine ap_getR ow_104 rf_4_28 rfl rfl rfl ?_; refine ap_iload_n rfl ?_; refine ap_lload_n rfl ?_; refine ai_lastore (n := 121) rfl rfl (by decide) ?_ ?_; refine ap_aload_n rfl ?_; refine ap_getR ow_104 rf_4_31 rfl rfl rfl ?_; refine ap_iload_n rfl ?_; refine ap_lload rfl ?_; refine ai_lastore (n := 121) rfl rfl (by decide) ?_ ?_; refine ap_vret rfl ?_
  · exact K
  all_goals (omega)

theorem sp_106 {d L : Nat} {sw : Bool} {f g : Nat → Nat → Int} {Q : Option Value → am_H → Prop} {n p : Int} (K : Q (some (.long (lZ (if 0 < (if p ≤ g 12 n.toNat then g 11 n.toNat else g 9 n.toNat) then 1000 * g 8 n.toNat / (if p ≤ g 12 n.toNat then g 11 n.toNat else g 9 n.toNat) else -1)))) (53, sh_lt L, iH f, jH g, sh_rt sw)) (hn : 0 ≤ n ∧ n < 121) (hp : lR p) (h1 : lR (g 12 n.toNat)) (h2 : lR (g 11 n.toNat)) (h3 : lR (g 9 n.toNat)) (h4 : 0 ≤ g 8 n.toNat ∧ g 8 n.toNat ≤ 100000) : am_call (d + 1) 106 [.ref 5, .int (iZ n), .long (lZ p)] (53, sh_lt L, iH f, jH g, sh_rt sw) Q := by
  refine ap_call (by decide) (Nat.le_of_ble_eq_true rfl) rfl ?_
  refine ap_go kc_106_0 ?_
  refine ap_lload_n rfl ?_; refine ap_aload_n rfl ?_; refine ap_getR ow_106 rf_4_31 rfl rfl rfl ?_; refine ap_iload_n rfl ?_; refine ai_laload (n := 121) rfl rfl (by decide) ?_ ?_
  refine ai_lcgt rfl rfl (fun hc0 => ?_) (fun hc0 => ?_) ?_
  · refine ap_go kc_106_20 ?_
    refine ap_aload_n rfl ?_; refine ap_getR ow_106 rf_4_22 rfl rfl rfl ?_; refine ap_iload_n rfl ?_; refine ai_laload (n := 121) rfl rfl (by decide) ?_ ?_; refine ap_nil ?_
    · refine ap_go kc_106_26 ?_
      refine ap_lstore rfl ?_; refine ap_lload rfl ?_; refine ai_lconst 0 rfl ?_
      refine ai_lcle rfl rfl (fun hc1 => ?_) (fun hc1 => ?_) ?_
      · refine ap_go kc_106_51 ?_
        refine ai_ldc2 (-1) ow_106 kl_4_45 rfl ?_; refine ap_nil ?_
        refine ap_go kc_106_54 ?_
        refine ap_lret rfl ?_
        (first | rw [if_pos (show p ≤ g 12 n.toNat by omega)] at K | rw [if_neg (show ¬ p ≤ g 12 n.toNat by omega)] at K); first | (rw [if_pos (by omega)] at K; exact K) | (rw [if_neg (by omega)] at K; exact K)
      · refine ap_go kc_106_35 ?_
        refine ai_ldc2 (1000) ow_106 kl_4_43 rfl ?_; refine ap_aload_n rfl ?_; refine ap_getR ow_106 rf_4_18 rfl rfl rfl ?_; refine ap_iload_n rfl ?_; refine ai_laload (n := 121) rfl rfl (by decide) ?_ ?_; refine ai_lmul ?_; refine ap_lload rfl ?_; refine ai_ldiv ?_ ?_; refine ap_goto rfl ?_
        · refine ap_go kc_106_54 ?_
          refine ap_lret rfl ?_
          (first | rw [if_pos (show p ≤ g 12 n.toNat by omega)] at K | rw [if_neg (show ¬ p ≤ g 12 n.toNat by omega)] at K); first | (rw [if_pos (by omega)] at K; exact K) | (rw [if_neg (by omega)] at K; exact K)
        all_goals (omega)
      all_goals (omega)
    all_goals (omega)
  · refine ap_go kc_106_11 ?_
    refine ap_aload_n rfl ?_; refine ap_getR ow_106 rf_4_28 rfl rfl rfl ?_; refine ap_iload_n rfl ?_; refine ai_laload (n := 121) rfl rfl (by decide) ?_ ?_; refine ap_goto rfl ?_
    · refine ap_go kc_106_26 ?_
      refine ap_lstore rfl ?_; refine ap_lload rfl ?_; refine ai_lconst 0 rfl ?_
      refine ai_lcle rfl rfl (fun hc2 => ?_) (fun hc2 => ?_) ?_
      · refine ap_go kc_106_51 ?_
        refine ai_ldc2 (-1) ow_106 kl_4_45 rfl ?_; refine ap_nil ?_
        refine ap_go kc_106_54 ?_
        refine ap_lret rfl ?_
        (first | rw [if_pos (show p ≤ g 12 n.toNat by omega)] at K | rw [if_neg (show ¬ p ≤ g 12 n.toNat by omega)] at K); first | (rw [if_pos (by omega)] at K; exact K) | (rw [if_neg (by omega)] at K; exact K)
      · refine ap_go kc_106_35 ?_
        refine ai_ldc2 (1000) ow_106 kl_4_43 rfl ?_; refine ap_aload_n rfl ?_; refine ap_getR ow_106 rf_4_18 rfl rfl rfl ?_; refine ap_iload_n rfl ?_; refine ai_laload (n := 121) rfl rfl (by decide) ?_ ?_; refine ai_lmul ?_; refine ap_lload rfl ?_; refine ai_ldiv ?_ ?_; refine ap_goto rfl ?_
        · refine ap_go kc_106_54 ?_
          refine ap_lret rfl ?_
          (first | rw [if_pos (show p ≤ g 12 n.toNat by omega)] at K | rw [if_neg (show ¬ p ≤ g 12 n.toNat by omega)] at K); first | (rw [if_pos (by omega)] at K; exact K) | (rw [if_neg (by omega)] at K; exact K)
        all_goals (omega)
      all_goals (omega)
    all_goals (omega)
  all_goals (omega)

theorem sp_108_27 {d L : Nat} {sw : Bool} {f g : Nat → Nat → Int} {Q : Option Value → am_H → Prop}  (K : Q (some (.int (iZ (f 27 3)))) (53, sh_lt L, iH f, jH g, sh_rt sw)) (hb : f 27 3 = 0 ∨ f 27 3 = 1) : am_call (d + 1) 108 [.ref 27] (53, sh_lt L, iH f, jH g, sh_rt sw) Q := by
  refine ap_call (by decide) (Nat.le_of_ble_eq_true rfl) rfl ?_
  refine ap_go kc_108_0 ?_
  refine ap_aload_n rfl ?_; refine ai_getZ ow_108 rf_5_23 rfl rfl ?_; refine ai_zret rfl ?_ ?_
  · exact K
  all_goals (omega)

theorem sp_109_27 {d L : Nat} {sw : Bool} {f g : Nat → Nat → Int} {Q : Option Value → am_H → Prop}  (K : Q (some (.int (iZ (f 27 1)))) (53, sh_lt L, iH f, jH g, sh_rt sw))  : am_call (d + 1) 109 [.ref 27] (53, sh_lt L, iH f, jH g, sh_rt sw) Q := by
  refine ap_call (by decide) (Nat.le_of_ble_eq_true rfl) rfl ?_
  refine ap_go kc_109_0 ?_
  refine ap_aload_n rfl ?_; refine ai_getI ow_109 rf_5_15 rfl rfl ?_; refine ap_iret rfl ?_
  exact K

theorem sp_110_27 {d L : Nat} {sw : Bool} {f g : Nat → Nat → Int} {Q : Option Value → am_H → Prop}  (K : Q (some (.long (lZ (g 27 2)))) (53, sh_lt L, iH f, jH g, sh_rt sw))  : am_call (d + 1) 110 [.ref 27] (53, sh_lt L, iH f, jH g, sh_rt sw) Q := by
  refine ap_call (by decide) (Nat.le_of_ble_eq_true rfl) rfl ?_
  refine ap_go kc_110_0 ?_
  refine ap_aload_n rfl ?_; refine ai_getJ ow_110 rf_5_19 rfl rfl ?_; refine ap_lret rfl ?_
  exact K

theorem sp_111_27 {d L : Nat} {sw : Bool} {f g : Nat → Nat → Int} {Q : Option Value → am_H → Prop} {i : Int} (K : Q (some (.int (iZ (if 0 ≤ i ∧ i < f 27 1 then (if 0 ≤ f 28 i.toNat then f 28 i.toNat else -f 28 i.toNat) else 0)))) (53, sh_lt L, iH f, jH g, sh_rt sw)) (hi : iR i) (hs : 0 ≤ f 27 1 ∧ f 27 1 ≤ 2400) (hv : ∀ k, iR (f 28 k)) : am_call (d + 1) 111 [.ref 27, .int (iZ i)] (53, sh_lt L, iH f, jH g, sh_rt sw) Q := by
  refine ap_call (by decide) (Nat.le_of_ble_eq_true rfl) rfl ?_
  refine ap_go kc_111_0 ?_
  refine ap_iload_n rfl ?_
  refine ai_iflt rfl rfl (fun hc0 => ?_) (fun hc0 => ?_) ?_
  · refine ap_go kc_111_24 ?_
    refine ai_iconst ?_; refine ap_nil ?_
    refine ap_go kc_111_25 ?_
    refine ap_iret rfl ?_
    first | (rw [if_pos (by omega)] at K; exact K) | (rw [if_neg (by omega)] at K; exact K)
  · refine ap_go kc_111_4 ?_
    refine ap_iload_n rfl ?_; refine ap_aload_n rfl ?_; refine ai_getI ow_111 rf_5_15 rfl rfl ?_
    refine ai_icge rfl rfl (fun hc1 => ?_) (fun hc1 => ?_) ?_
    · refine ap_go kc_111_24 ?_
      refine ai_iconst ?_; refine ap_nil ?_
      refine ap_go kc_111_25 ?_
      refine ap_iret rfl ?_
      first | (rw [if_pos (by omega)] at K; exact K) | (rw [if_neg (by omega)] at K; exact K)
    · refine ap_go kc_111_12 ?_
      refine ap_aload_n rfl ?_; refine ap_getR ow_111 rf_5_9 rfl rfl rfl ?_; refine ap_iload_n rfl ?_; refine ai_iaload (n := 2400) rfl rfl (by decide) ?_ ?_; refine ai_mabs ow_111 rm_5_27 (Nat.le_of_ble_eq_true rfl) ?_ ?_; refine ap_goto rfl ?_
      · refine ap_go kc_111_25 ?_
        refine ap_iret rfl ?_
        first | (rw [if_pos (by omega)] at K; exact K) | (rw [if_neg (by omega)] at K; exact K)
      all_goals (first | omega | exact hv _)
    all_goals (first | omega | exact hv _)
  all_goals (first | omega | exact hv _)

theorem sp_112_27 {d L : Nat} {sw : Bool} {f g : Nat → Nat → Int} {Q : Option Value → am_H → Prop}  (K : Q none (53, sh_lt L, iH (am_up (am_up f 27 3 0) 27 1 0), jH (am_up g 27 2 0), sh_rt sw))  : am_call (d + 1) 112 [.ref 27] (53, sh_lt L, iH f, jH g, sh_rt sw) Q := by
  refine ap_call (by decide) (Nat.le_of_ble_eq_true rfl) rfl ?_
  refine ap_go kc_112_0 ?_
  refine ap_aload_n rfl ?_; refine ai_iconst ?_; refine ai_putZ ow_112 rf_5_23 rfl rfl rfl ?_ ?_; refine ap_aload_n rfl ?_; refine ai_iconst ?_; refine ai_putI ow_112 rf_5_15 rfl rfl rfl ?_; refine ap_aload_n rfl ?_; refine ai_lconst 0 rfl ?_; refine ai_putJ ow_112 rf_5_19 rfl rfl rfl ?_; refine ap_vret rfl ?_
  · exact K
  all_goals (exact Or.inl rfl)

theorem sp_113_27 {d L : Nat} {sw : Bool} {f g : Nat → Nat → Int} {Q : Option Value → am_H → Prop} {s : Int} (K : Q none (53, sh_lt L, iH (am_up (am_up f 28 (f 27 1).toNat s) 27 1 (f 27 1 + 1)), jH g, sh_rt sw)) (hs : 0 ≤ f 27 1 ∧ f 27 1 < 2400) : am_call (d + 1) 113 [.ref 27, .int (iZ s)] (53, sh_lt L, iH f, jH g, sh_rt sw) Q := by
  refine ap_call (by decide) (Nat.le_of_ble_eq_true rfl) rfl ?_
  refine ap_go kc_113_0 ?_
  refine ap_aload_n rfl ?_; refine ai_getI ow_113 rf_5_15 rfl rfl ?_; refine ai_sipush (by decide) ?_
  refine ai_icge rfl rfl (fun hc0 => ?_) (fun hc0 => ?_) ?_
  · refine ap_go kc_113_30 ?_
    refine ap_vret rfl ?_
    first | exact K | (exfalso; omega)
  · refine ap_go kc_113_10 ?_
    refine ap_aload_n rfl ?_; refine ap_getR ow_113 rf_5_9 rfl rfl rfl ?_; refine ap_aload_n rfl ?_; refine ai_getI ow_113 rf_5_15 rfl rfl ?_; refine ap_iload_n rfl ?_; refine ai_iastore (n := 2400) rfl rfl (by decide) ?_ ?_; refine ap_aload_n rfl ?_; refine ap_dup rfl ?_; refine ai_getI ow_113 rf_5_15 rfl rfl ?_; refine ai_iconst ?_; refine ai_iadd ?_; refine ai_putI ow_113 rf_5_15 rfl rfl rfl ?_; refine ap_nil ?_
    · refine ap_go kc_113_30 ?_
      refine ap_vret rfl ?_
      first | exact K | (exfalso; omega)
    all_goals (omega)
  all_goals (omega)

theorem sp_114_27 {d L : Nat} {sw : Bool} {f g : Nat → Nat → Int} {Q : Option Value → am_H → Prop} {c : Int} (K : Q none (53, sh_lt L, iH (am_up f 27 3 1), jH (am_up g 27 2 c), sh_rt sw))  : am_call (d + 1) 114 [.ref 27, .long (lZ c)] (53, sh_lt L, iH f, jH g, sh_rt sw) Q := by
  refine ap_call (by decide) (Nat.le_of_ble_eq_true rfl) rfl ?_
  refine ap_go kc_114_0 ?_
  refine ap_aload_n rfl ?_; refine ai_iconst ?_; refine ai_putZ ow_114 rf_5_23 rfl rfl rfl ?_ ?_; refine ap_aload_n rfl ?_; refine ap_lload_n rfl ?_; refine ai_putJ ow_114 rf_5_19 rfl rfl rfl ?_; refine ap_vret rfl ?_
  · exact K
  all_goals (exact Or.inr rfl)

theorem sp_108_29 {d L : Nat} {sw : Bool} {f g : Nat → Nat → Int} {Q : Option Value → am_H → Prop}  (K : Q (some (.int (iZ (f 29 3)))) (53, sh_lt L, iH f, jH g, sh_rt sw)) (hb : f 29 3 = 0 ∨ f 29 3 = 1) : am_call (d + 1) 108 [.ref 29] (53, sh_lt L, iH f, jH g, sh_rt sw) Q := by
  refine ap_call (by decide) (Nat.le_of_ble_eq_true rfl) rfl ?_
  refine ap_go kc_108_0 ?_
  refine ap_aload_n rfl ?_; refine ai_getZ ow_108 rf_5_23 rfl rfl ?_; refine ai_zret rfl ?_ ?_
  · exact K
  all_goals (omega)

theorem sp_109_29 {d L : Nat} {sw : Bool} {f g : Nat → Nat → Int} {Q : Option Value → am_H → Prop}  (K : Q (some (.int (iZ (f 29 1)))) (53, sh_lt L, iH f, jH g, sh_rt sw))  : am_call (d + 1) 109 [.ref 29] (53, sh_lt L, iH f, jH g, sh_rt sw) Q := by
  refine ap_call (by decide) (Nat.le_of_ble_eq_true rfl) rfl ?_
  refine ap_go kc_109_0 ?_
  refine ap_aload_n rfl ?_; refine ai_getI ow_109 rf_5_15 rfl rfl ?_; refine ap_iret rfl ?_
  exact K

theorem sp_110_29 {d L : Nat} {sw : Bool} {f g : Nat → Nat → Int} {Q : Option Value → am_H → Prop}  (K : Q (some (.long (lZ (g 29 2)))) (53, sh_lt L, iH f, jH g, sh_rt sw))  : am_call (d + 1) 110 [.ref 29] (53, sh_lt L, iH f, jH g, sh_rt sw) Q := by
  refine ap_call (by decide) (Nat.le_of_ble_eq_true rfl) rfl ?_
  refine ap_go kc_110_0 ?_
  refine ap_aload_n rfl ?_; refine ai_getJ ow_110 rf_5_19 rfl rfl ?_; refine ap_lret rfl ?_
  exact K

theorem sp_111_29 {d L : Nat} {sw : Bool} {f g : Nat → Nat → Int} {Q : Option Value → am_H → Prop} {i : Int} (K : Q (some (.int (iZ (if 0 ≤ i ∧ i < f 29 1 then (if 0 ≤ f 30 i.toNat then f 30 i.toNat else -f 30 i.toNat) else 0)))) (53, sh_lt L, iH f, jH g, sh_rt sw)) (hi : iR i) (hs : 0 ≤ f 29 1 ∧ f 29 1 ≤ 2400) (hv : ∀ k, iR (f 30 k)) : am_call (d + 1) 111 [.ref 29, .int (iZ i)] (53, sh_lt L, iH f, jH g, sh_rt sw) Q := by
  refine ap_call (by decide) (Nat.le_of_ble_eq_true rfl) rfl ?_
  refine ap_go kc_111_0 ?_
  refine ap_iload_n rfl ?_
  refine ai_iflt rfl rfl (fun hc0 => ?_) (fun hc0 => ?_) ?_
  · refine ap_go kc_111_24 ?_
    refine ai_iconst ?_; refine ap_nil ?_
    refine ap_go kc_111_25 ?_
    refine ap_iret rfl ?_
    first | (rw [if_pos (by omega)] at K; exact K) | (rw [if_neg (by omega)] at K; exact K)
  · refine ap_go kc_111_4 ?_
    refine ap_iload_n rfl ?_; refine ap_aload_n rfl ?_; refine ai_getI ow_111 rf_5_15 rfl rfl ?_
    refine ai_icge rfl rfl (fun hc1 => ?_) (fun hc1 => ?_) ?_
    · refine ap_go kc_111_24 ?_
      refine ai_iconst ?_; refine ap_nil ?_
      refine ap_go kc_111_25 ?_
      refine ap_iret rfl ?_
      first | (rw [if_pos (by omega)] at K; exact K) | (rw [if_neg (by omega)] at K; exact K)
    · refine ap_go kc_111_12 ?_
      refine ap_aload_n rfl ?_; refine ap_getR ow_111 rf_5_9 rfl rfl rfl ?_; refine ap_iload_n rfl ?_; refine ai_iaload (n := 2400) rfl rfl (by decide) ?_ ?_; refine ai_mabs ow_111 rm_5_27 (Nat.le_of_ble_eq_true rfl) ?_ ?_; refine ap_goto rfl ?_
      · refine ap_go kc_111_25 ?_
        refine ap_iret rfl ?_
        first | (rw [if_pos (by omega)] at K; exact K) | (rw [if_neg (by omega)] at K; exact K)
      all_goals (first | omega | exact hv _)
    all_goals (first | omega | exact hv _)
  all_goals (first | omega | exact hv _)

theorem sp_112_29 {d L : Nat} {sw : Bool} {f g : Nat → Nat → Int} {Q : Option Value → am_H → Prop}  (K : Q none (53, sh_lt L, iH (am_up (am_up f 29 3 0) 29 1 0), jH (am_up g 29 2 0), sh_rt sw))  : am_call (d + 1) 112 [.ref 29] (53, sh_lt L, iH f, jH g, sh_rt sw) Q := by
  refine ap_call (by decide) (Nat.le_of_ble_eq_true rfl) rfl ?_
  refine ap_go kc_112_0 ?_
  refine ap_aload_n rfl ?_; refine ai_iconst ?_; refine ai_putZ ow_112 rf_5_23 rfl rfl rfl ?_ ?_; refine ap_aload_n rfl ?_; refine ai_iconst ?_; refine ai_putI ow_112 rf_5_15 rfl rfl rfl ?_; refine ap_aload_n rfl ?_; refine ai_lconst 0 rfl ?_; refine ai_putJ ow_112 rf_5_19 rfl rfl rfl ?_; refine ap_vret rfl ?_
  · exact K
  all_goals (exact Or.inl rfl)

theorem sp_113_29 {d L : Nat} {sw : Bool} {f g : Nat → Nat → Int} {Q : Option Value → am_H → Prop} {s : Int} (K : Q none (53, sh_lt L, iH (am_up (am_up f 30 (f 29 1).toNat s) 29 1 (f 29 1 + 1)), jH g, sh_rt sw)) (hs : 0 ≤ f 29 1 ∧ f 29 1 < 2400) : am_call (d + 1) 113 [.ref 29, .int (iZ s)] (53, sh_lt L, iH f, jH g, sh_rt sw) Q := by
  refine ap_call (by decide) (Nat.le_of_ble_eq_true rfl) rfl ?_
  refine ap_go kc_113_0 ?_
  refine ap_aload_n rfl ?_; refine ai_getI ow_113 rf_5_15 rfl rfl ?_; refine ai_sipush (by decide) ?_
  refine ai_icge rfl rfl (fun hc0 => ?_) (fun hc0 => ?_) ?_
  · refine ap_go kc_113_30 ?_
    refine ap_vret rfl ?_
    first | exact K | (exfalso; omega)
  · refine ap_go kc_113_10 ?_
    refine ap_aload_n rfl ?_; refine ap_getR ow_113 rf_5_9 rfl rfl rfl ?_; refine ap_aload_n rfl ?_; refine ai_getI ow_113 rf_5_15 rfl rfl ?_; refine ap_iload_n rfl ?_; refine ai_iastore (n := 2400) rfl rfl (by decide) ?_ ?_; refine ap_aload_n rfl ?_; refine ap_dup rfl ?_; refine ai_getI ow_113 rf_5_15 rfl rfl ?_; refine ai_iconst ?_; refine ai_iadd ?_; refine ai_putI ow_113 rf_5_15 rfl rfl rfl ?_; refine ap_nil ?_
    · refine ap_go kc_113_30 ?_
      refine ap_vret rfl ?_
      first | exact K | (exfalso; omega)
    all_goals (omega)
  all_goals (omega)

theorem sp_114_29 {d L : Nat} {sw : Bool} {f g : Nat → Nat → Int} {Q : Option Value → am_H → Prop} {c : Int} (K : Q none (53, sh_lt L, iH (am_up f 29 3 1), jH (am_up g 29 2 c), sh_rt sw))  : am_call (d + 1) 114 [.ref 29, .long (lZ c)] (53, sh_lt L, iH f, jH g, sh_rt sw) Q := by
  refine ap_call (by decide) (Nat.le_of_ble_eq_true rfl) rfl ?_
  refine ap_go kc_114_0 ?_
  refine ap_aload_n rfl ?_; refine ai_iconst ?_; refine ai_putZ ow_114 rf_5_23 rfl rfl rfl ?_ ?_; refine ap_aload_n rfl ?_; refine ap_lload_n rfl ?_; refine ai_putJ ow_114 rf_5_19 rfl rfl rfl ?_; refine ap_vret rfl ?_
  · exact K
  all_goals (exact Or.inr rfl)

theorem sp_15 {d L : Nat} {sw : Bool} {f g : Nat → Nat → Int} {Q : Option Value → am_H → Prop} {x m : Int} (K : Q (some (.int (iZ (if -m ≤ x ∧ x ≤ m then 1 else 0)))) (53, sh_lt L, iH f, jH g, sh_rt sw)) (hx : lR x) (hm : 0 ≤ m ∧ m < 1000000) : am_call (d + 1) 15 [.long (lZ x), .long (lZ m)] (53, sh_lt L, iH f, jH g, sh_rt sw) Q := by
  refine ap_call (by decide) (Nat.le_of_ble_eq_true rfl) rfl ?_
  refine ap_go kc_15_0 ?_
  refine ap_lload_n rfl ?_; refine ap_lload_n rfl ?_; refine ai_lneg ?_
  refine ai_lclt rfl rfl (fun hc0 => ?_) (fun hc0 => ?_) ?_
  · refine ap_go kc_15_17 ?_
    refine ai_iconst ?_; refine ap_nil ?_
    refine ap_go kc_15_18 ?_
    refine ai_zret rfl ?_ ?_
    · exact sq K (by first | rfl | omega | (split <;> omega) | (split <;> split <;> omega))
    all_goals (omega)
  · refine ap_go kc_15_7 ?_
    refine ap_lload_n rfl ?_; refine ap_lload_n rfl ?_
    refine ai_lcgt rfl rfl (fun hc1 => ?_) (fun hc1 => ?_) ?_
    · refine ap_go kc_15_17 ?_
      refine ai_iconst ?_; refine ap_nil ?_
      refine ap_go kc_15_18 ?_
      refine ai_zret rfl ?_ ?_
      · exact sq K (by first | rfl | omega | (split <;> omega) | (split <;> split <;> omega))
      all_goals (omega)
    · refine ap_go kc_15_13 ?_
      refine ai_iconst ?_; refine ap_goto rfl ?_
      refine ap_go kc_15_18 ?_
      refine ai_zret rfl ?_ ?_
      · exact sq K (by first | rfl | omega | (split <;> omega) | (split <;> split <;> omega))
      all_goals (omega)
    all_goals (omega)
  all_goals (omega)

theorem sp_123 {d L : Nat} {sw : Bool} {f g : Nat → Nat → Int} {Q : Option Value → am_H → Prop}  (K : Q (some (.int (iZ (if f 14 10 = 2 then 21 else 1)))) (53, sh_lt L, iH f, jH g, sh_rt sw)) (hk : iR (f 14 10)) : am_call (d + 1) 123 [.ref 14] (53, sh_lt L, iH f, jH g, sh_rt sw) Q := by
  refine ap_call (by decide) (Nat.le_of_ble_eq_true rfl) rfl ?_
  refine ap_go kc_123_0 ?_
  refine ap_aload_n rfl ?_; refine ai_getI ow_123 rf_6_42 rfl rfl ?_; refine ai_iconst ?_
  refine ai_icne rfl rfl (fun hc0 => ?_) (fun hc0 => ?_) ?_
  · refine ap_go kc_123_13 ?_
    refine ai_iconst ?_; refine ap_nil ?_
    refine ap_go kc_123_14 ?_
    refine ap_iret rfl ?_
    exact sq K (by first | rfl | omega | (split <;> omega) | (split <;> split <;> omega))
  · refine ap_go kc_123_8 ?_
    refine ai_bipush (by decide) ?_; refine ap_goto rfl ?_
    refine ap_go kc_123_14 ?_
    refine ap_iret rfl ?_
    exact sq K (by first | rfl | omega | (split <;> omega) | (split <;> split <;> omega))
  all_goals (omega)

theorem sp_124 {d L : Nat} {sw : Bool} {f g : Nat → Nat → Int} {Q : Option Value → am_H → Prop}  (K : Q (some (.int (iZ (f 14 11)))) (53, sh_lt L, iH f, jH g, sh_rt sw))  : am_call (d + 1) 124 [.ref 14] (53, sh_lt L, iH f, jH g, sh_rt sw) Q := by
  refine ap_call (by decide) (Nat.le_of_ble_eq_true rfl) rfl ?_
  refine ap_go kc_124_0 ?_
  refine ap_aload_n rfl ?_; refine ai_getI ow_124 rf_6_45 rfl rfl ?_; refine ap_iret rfl ?_
  exact K

theorem sp_118 {d L : Nat} {sw : Bool} {f g : Nat → Nat → Int} {Q : Option Value → am_H → Prop} {a b k e : Int} (K : Q none (53, sh_lt L, iH (am_up (am_up (am_up (am_up (am_up f 14 8 a) 14 9 b) 14 10 k) 14 11 e) 7 0 a), jH g, sh_rt sw))  : am_call (d + 2) 118 [.ref 14, .int (iZ a), .int (iZ b), .int (iZ k), .int (iZ e)] (53, sh_lt L, iH f, jH g, sh_rt sw) Q := by
  refine ap_call (by decide) (Nat.le_of_ble_eq_true rfl) rfl ?_
  refine ap_go kc_118_0 ?_
  refine ap_aload_n rfl ?_; refine ap_iload_n rfl ?_; refine ai_putI ow_118 rf_6_35 rfl rfl rfl ?_; refine ap_aload_n rfl ?_; refine ap_iload_n rfl ?_; refine ai_putI ow_118 rf_6_39 rfl rfl rfl ?_; refine ap_aload_n rfl ?_; refine ap_iload_n rfl ?_; refine ai_putI ow_118 rf_6_42 rfl rfl rfl ?_; refine ap_aload_n rfl ?_; refine ap_iload rfl ?_; refine ai_putI ow_118 rf_6_45 rfl rfl rfl ?_; refine ap_aload_n rfl ?_; refine ap_getR ow_118 rf_6_52 rfl rfl rfl ?_; refine ap_iload_n rfl ?_; refine ap_callv0 ow_118 rm_6_56 na_97 mc_97 ms_97 rfl rfl (Nat.le_of_ble_eq_true rfl) (Nat.le_of_ble_eq_true rfl) (Or.inr rfl) (Nat.zero_le _) (Nat.zero_le _) ?_; refine sp_97 ?_; dsimp only [Option.toList_some, Option.toList_none, List.cons_append, List.nil_append]; refine ap_vret rfl ?_
  exact K

theorem sp_137 {d L : Nat} {sw : Bool} {f g : Nat → Nat → Int} {Q : Option Value → am_H → Prop} {n e : Int} (K : Q (some (.int (iZ (if 0 < g 4 n.toNat then 20 else e)))) (53, sh_lt L, iH f, jH g, sh_rt sw)) (hn : 0 ≤ n ∧ n < 61) (hr : lR (g 4 n.toNat)) : am_call (d + 2) 137 [.ref 14, .int (iZ n), .int (iZ e)] (53, sh_lt L, iH f, jH g, sh_rt sw) Q := by
  refine ap_call (by decide) (Nat.le_of_ble_eq_true rfl) rfl ?_
  refine ap_go kc_137_0 ?_
  refine ap_aload_n rfl ?_; refine ap_getR ow_137 rf_6_48 rfl rfl rfl ?_; refine ap_iload_n rfl ?_; refine ap_callv0 ow_137 rm_6_141 na_89 mc_89 ms_89 rfl rfl (Nat.le_of_ble_eq_true rfl) (Nat.le_of_ble_eq_true rfl) (Or.inr rfl) (Nat.zero_le _) (Nat.zero_le _) ?_; refine sp_89 ?_ ?_ ?_; dsimp only [Option.toList_some, Option.toList_none, List.cons_append, List.nil_append]
  refine ai_ifeq rfl rfl (fun hc0 => ?_) (fun hc0 => ?_) ?_
  · refine ap_go kc_137_16 ?_
    refine ap_iload_n rfl ?_; refine ap_nil ?_
    refine ap_go kc_137_17 ?_
    refine ap_iret rfl ?_
    exact sq K (by split at hc0 <;> split <;> omega)
  · refine ap_go kc_137_11 ?_
    refine ai_bipush (by decide) ?_; refine ap_goto rfl ?_
    refine ap_go kc_137_17 ?_
    refine ap_iret rfl ?_
    exact sq K (by split at hc0 <;> split <;> omega)
  all_goals (first | omega | (split <;> omega))
end
section
/-! COUNTING LOOPS of the class -/
def cZ (p : Nat → Bool) : Nat → Int
  | 0 => 0
  | n + 1 => cZ p n + (if p (n + 1) = true then 1 else 0)
theorem cZ_in (p : Nat → Bool) : ∀ n : Nat, 0 ≤ cZ p n ∧ cZ p n ≤ n
  | 0 => ⟨Int.le_refl 0, Int.le_refl 0⟩
  | n + 1 => by
    have h := cZ_in p n
    simp only [cZ]
    split <;> omega
theorem up_id {f : Nat → Nat → Int} {a k : Nat} : am_up f a k (f a k) = f := by
  funext b i
  simp only [am_up]
  split
  · rename_i h; rw [h.1, h.2]
  · rfl
theorem cZ_t {p : Nat → Bool} {n : Nat} (h : p (n + 1) = true) : cZ p (n + 1) = cZ p n + 1 := by simp [cZ, h]
theorem cZ_f {p : Nat → Bool} {n : Nat} (h : p (n + 1) = false) : cZ p (n + 1) = cZ p n := by simp [cZ, h]
theorem lp_91 {d L : Nat} {sw : Bool} {f g : Nat → Nat → Int} {Q : Option Value → am_H → Prop} (hc : 0 ≤ f 1 3 ∧ f 1 3 ≤ 60) (hr : ∀ n, lR (g 4 n)) (K : Q (some (.int (iZ (cZ (fun n => decide (0 < g 4 n)) (f 1 3).toNat)))) (53, sh_lt L, iH f, jH g, sh_rt sw)) : ∀ (m k : Nat) (c i : Int), (f 1 3).toNat = k + m → c = cZ (fun n => decide (0 < g 4 n)) k → i = k + 1 → am_Wp (am_call (d + 1)) 91 Q 4 [some (.ref 1), some (.int (iZ c)), some (.int (iZ i))] [] (53, sh_lt L, iH f, jH g, sh_rt sw) (0, 0) := by
  intro m
  induction m with
  | zero =>
    intro k c i hk ec ei
    have hb := cZ_in (fun n => decide (0 < g 4 n)) k
    refine ap_go kc_91_4 ?_
    refine ap_iload_n rfl ?_; refine ap_aload_n rfl ?_; refine ai_getI ow_91 rf_3_21 rfl rfl ?_
    refine ai_icgt rfl rfl (fun hc0 => ?_) (fun hc0 => ?_) ?_
    · refine ap_go kc_91_29 ?_
      refine ap_iload_n rfl ?_; refine ap_iret rfl ?_
      rw [hk] at K; rw [ec]; exact K
    · exfalso; omega
    all_goals (omega)
  | succ m ih =>
    intro k c i hk ec ei
    have hb := cZ_in (fun n => decide (0 < g 4 n)) k
    have ei' : i.toNat = k + 1 := by omega
    refine ap_go kc_91_4 ?_
    refine ap_iload_n rfl ?_; refine ap_aload_n rfl ?_; refine ai_getI ow_91 rf_3_21 rfl rfl ?_
    refine ai_icgt rfl rfl (fun hc0 => ?_) (fun hc0 => ?_) ?_
    · refine ap_go kc_91_29 ?_
      refine ap_iload_n rfl ?_; refine ap_iret rfl ?_
      exfalso; omega
    · refine ap_go kc_91_12 ?_
      refine ap_aload_n rfl ?_; refine ap_iload_n rfl ?_; refine ap_callv0 ow_91 rm_3_33 na_89 mc_89 ms_89 rfl rfl (Nat.le_of_ble_eq_true rfl) (Nat.le_of_ble_eq_true rfl) (Or.inr rfl) (Nat.zero_le _) (Nat.zero_le _) ?_; refine sp_89 ?_ ?_ ?_; dsimp only [Option.toList_some, Option.toList_none, List.cons_append, List.nil_append]
      refine ai_ifeq rfl rfl (fun hc1 => ?_) (fun hc1 => ?_) ?_
      · refine ap_go kc_91_23 ?_
        refine ai_iinc rfl rfl ?_; refine ap_goto rfl ?_
        exact ih (k + 1) _ _ (by omega) (by rw [ei'] at hc1; simp only [cZ, decide_eq_true_eq]; split at hc1 <;> split <;> omega) (by omega)
      · refine ap_go kc_91_20 ?_
        refine ai_iinc rfl rfl ?_; refine ap_nil ?_
        refine ap_go kc_91_23 ?_
        refine ai_iinc rfl rfl ?_; refine ap_goto rfl ?_
        exact ih (k + 1) _ _ (by omega) (by rw [ei'] at hc1; simp only [cZ, decide_eq_true_eq]; split at hc1 <;> split <;> omega) (by omega)
      all_goals (first | omega | exact hr _ | (split <;> omega))
    all_goals (first | omega | exact hr _ | (split <;> omega))
theorem sp_91 {d L : Nat} {sw : Bool} {f g : Nat → Nat → Int} {Q : Option Value → am_H → Prop} (K : Q (some (.int (iZ (cZ (fun n => decide (0 < g 4 n)) (f 1 3).toNat)))) (53, sh_lt L, iH f, jH g, sh_rt sw)) (hc : 0 ≤ f 1 3 ∧ f 1 3 ≤ 60) (hr : ∀ n, lR (g 4 n)) : am_call (d + 2) 91 [.ref 1] (53, sh_lt L, iH f, jH g, sh_rt sw) Q := by
  refine ap_call (by decide) (Nat.le_of_ble_eq_true rfl) rfl ?_
  refine ap_go kc_91_0 ?_
  refine ai_iconst ?_; refine ap_istore_n rfl ?_; refine ai_iconst ?_; refine ap_istore_n rfl ?_; refine ap_nil ?_
  exact lp_91 hc hr K (f 1 3).toNat 0 0 1 (by omega) rfl rfl
theorem lp_105 {d L : Nat} {sw : Bool} {f g : Nat → Nat → Int} {Q : Option Value → am_H → Prop} {p : Int} (hc : 0 ≤ f 5 8 ∧ f 5 8 ≤ 120) (hp : lR p) (hr : ∀ n, lR (g 12 n)) (K : Q (some (.int (iZ (cZ (fun n => decide (p ≤ g 12 n)) (f 5 8).toNat)))) (53, sh_lt L, iH f, jH g, sh_rt sw)) : ∀ (m k : Nat) (c i : Int), (f 5 8).toNat = k + m → c = cZ (fun n => decide (p ≤ g 12 n)) k → i = k + 1 → am_Wp (am_call d) 105 Q 5 [some (.ref 5), some (.long (lZ p)), none, some (.int (iZ c)), some (.int (iZ i))] [] (53, sh_lt L, iH f, jH g, sh_rt sw) (0, 0) := by
  intro m
  induction m with
  | zero =>
    intro k c i hk ec ei
    have hb := cZ_in (fun n => decide (p ≤ g 12 n)) k
    refine ap_go kc_105_5 ?_
    refine ap_iload rfl ?_; refine ap_aload_n rfl ?_; refine ai_getI ow_105 rf_4_37 rfl rfl ?_
    refine ai_icgt rfl rfl (fun hc0 => ?_) (fun hc0 => ?_) ?_
    · refine ap_go kc_105_35 ?_
      refine ap_iload_n rfl ?_; refine ap_iret rfl ?_
      rw [hk] at K; rw [ec]; exact K
    · exfalso; omega
    all_goals (omega)
  | succ m ih =>
    intro k c i hk ec ei
    have hb := cZ_in (fun n => decide (p ≤ g 12 n)) k
    have ei' : i.toNat = k + 1 := by omega
    refine ap_go kc_105_5 ?_
    refine ap_iload rfl ?_; refine ap_aload_n rfl ?_; refine ai_getI ow_105 rf_4_37 rfl rfl ?_
    refine ai_icgt rfl rfl (fun hc0 => ?_) (fun hc0 => ?_) ?_
    · refine ap_go kc_105_35 ?_
      refine ap_iload_n rfl ?_; refine ap_iret rfl ?_
      exfalso; omega
    · refine ap_go kc_105_14 ?_
      refine ap_lload_n rfl ?_; refine ap_aload_n rfl ?_; refine ap_getR ow_105 rf_4_31 rfl rfl rfl ?_; refine ap_iload rfl ?_; refine ai_laload (n := 121) rfl rfl (by decide) ?_ ?_
      refine ai_lcgt rfl rfl (fun hc1 => ?_) (fun hc1 => ?_) ?_
      · refine ap_go kc_105_29 ?_
        refine ai_iinc rfl rfl ?_; refine ap_goto rfl ?_
        exact ih (k + 1) _ _ (by omega) (by rw [ei'] at hc1; simp only [cZ, decide_eq_true_eq]; split <;> omega) (by omega)
      · refine ap_go kc_105_26 ?_
        refine ai_iinc rfl rfl ?_; refine ap_nil ?_
        refine ap_go kc_105_29 ?_
        refine ai_iinc rfl rfl ?_; refine ap_goto rfl ?_
        exact ih (k + 1) _ _ (by omega) (by rw [ei'] at hc1; simp only [cZ, decide_eq_true_eq]; split <;> omega) (by omega)
      all_goals (first | omega | exact ⟨hp, hr _⟩)
    all_goals (first | omega | exact ⟨hp, hr _⟩)
theorem sp_105 {d L : Nat} {sw : Bool} {f g : Nat → Nat → Int} {Q : Option Value → am_H → Prop} {p : Int} (K : Q (some (.int (iZ (cZ (fun n => decide (p ≤ g 12 n)) (f 5 8).toNat)))) (53, sh_lt L, iH f, jH g, sh_rt sw)) (hc : 0 ≤ f 5 8 ∧ f 5 8 ≤ 120) (hp : lR p) (hr : ∀ n, lR (g 12 n)) : am_call (d + 1) 105 [.ref 5, .long (lZ p)] (53, sh_lt L, iH f, jH g, sh_rt sw) Q := by
  refine ap_call (by decide) (Nat.le_of_ble_eq_true rfl) rfl ?_
  refine ap_go kc_105_0 ?_
  refine ai_iconst ?_; refine ap_istore_n rfl ?_; refine ai_iconst ?_; refine ap_istore rfl ?_; refine ap_nil ?_
  exact lp_105 hc hp hr K (f 5 8).toNat 0 0 1 (by omega) rfl rfl
end
section
/-! BITS, NAMES, PARTS, GEOMETRY of the class -/
abbrev aZ (x : Int) : Int := if 0 ≤ x then x else -x
def octZ (x y : Int) : Int := if 0 < x ∧ 0 ≤ y then (if y < x then 0 else 1) else if x ≤ 0 ∧ 0 < y then (if -x < y then 2 else 3) else if x < 0 then (if -y < -x then 4 else 5) else if y < 0 then (if x < -y then 6 else 7) else -1
def advZ (c d : Int) : Int := if 2 * (if 0 < c then c else -c) ≤ d then 0 else if 2 * (if 0 < c then c else -c) ≤ -d then 3 else if 0 < c then 2 else 1
def sqrZ (px py vx vy : Int) : Int := if px * vx + py * vy ≤ 0 ∨ vx * vx + vy * vy ≤ 0 then px * px + py * py else if vx * vx + vy * vy ≤ px * vx + py * vy then (px - vx) * (px - vx) + (py - vy) * (py - vy) else (px * vy - py * vx) * (px * vy - py * vx) / (vx * vx + vy * vy)

theorem sp_102 {d L : Nat} {sw : Bool} {f g : Nat → Nat → Int} {Q : Option Value → am_H → Prop} {s t : Int} (K : Q (some (.int (iZ (if w_bit (g 13 (2 * s + t / 64).toNat) (t % 64).toNat = true then 1 else 0)))) (53, sh_lt L, iH f, jH g, sh_rt sw)) (hs : 0 ≤ s ∧ s < 121) (ht : 0 ≤ t ∧ t < 121) : am_call (d + 1) 102 [.ref 5, .int (iZ s), .int (iZ t)] (53, sh_lt L, iH f, jH g, sh_rt sw) Q := by
  refine ap_call (by decide) (Nat.le_of_ble_eq_true rfl) rfl ?_
  have hb := w_bit_t (x := g 13 (s * 2 + t / 64).toNat) (s := (t % 64).toNat) (by omega)
  rw [show (((t % 64).toNat : Nat) : Int) = t % 64 by omega] at hb
  refine ap_go kc_102_0 ?_
  refine ap_aload_n rfl ?_; refine ap_getR ow_102 rf_4_34 rfl rfl rfl ?_; refine ap_iload_n rfl ?_; refine ai_iconst ?_; refine ai_imul ?_; refine ap_iload_n rfl ?_; refine ai_bipush (by decide) ?_; refine ai_idiv ?_ ?_; refine ai_iadd ?_; refine ai_laload (n := 242) rfl rfl (by decide) ?_ ?_; refine ap_iload_n rfl ?_; refine ai_bipush (by decide) ?_; refine ai_irem ?_ ?_; refine ai_lushr ?_; refine ai_lconst 1 rfl ?_; refine ai_land ?_; refine ai_lconst 0 rfl ?_
  refine ai_lceq rfl rfl (fun hc0 => ?_) (fun hc0 => ?_) ?_
  · refine ap_go kc_102_29 ?_
    refine ai_iconst ?_; refine ap_nil ?_
    refine ap_go kc_102_30 ?_
    refine ai_zret rfl ?_ ?_
    · rw [show (2 * s + t / 64) = s * 2 + t / 64 by omega] at K; first | (rw [if_pos (by cases hq : w_bit (g 13 (s * 2 + t / 64).toNat) (t % 64).toNat with | true => rfl | false => exact absurd (hb.mpr hq) hc0)] at K; exact K) | (rw [if_neg (by rw [hb.mp hc0]; decide)] at K; exact K)
    all_goals (first | omega | exact ⟨lR_T _, by decide, by decide⟩)
  · refine ap_go kc_102_25 ?_
    refine ai_iconst ?_; refine ap_goto rfl ?_
    refine ap_go kc_102_30 ?_
    refine ai_zret rfl ?_ ?_
    · rw [show (2 * s + t / 64) = s * 2 + t / 64 by omega] at K; first | (rw [if_pos (by cases hq : w_bit (g 13 (s * 2 + t / 64).toNat) (t % 64).toNat with | true => rfl | false => exact absurd (hb.mpr hq) hc0)] at K; exact K) | (rw [if_neg (by rw [hb.mp hc0]; decide)] at K; exact K)
    all_goals (first | omega | exact ⟨lR_T _, by decide, by decide⟩)
  all_goals (first | omega | exact ⟨lR_T _, by decide, by decide⟩)

theorem sp_103 {d L : Nat} {sw : Bool} {f g : Nat → Nat → Int} {Q : Option Value → am_H → Prop} {s t : Int} (K : Q none (53, sh_lt L, iH f, jH (am_up g 13 (s * 2 + t / 64).toNat (w_xor (g 13 (s * 2 + t / 64).toNat) (w_shl 1 (t % 64)))), sh_rt sw)) (hs : 0 ≤ s ∧ s < 121) (ht : 0 ≤ t ∧ t < 121) : am_call (d + 1) 103 [.ref 5, .int (iZ s), .int (iZ t)] (53, sh_lt L, iH f, jH g, sh_rt sw) Q := by
  refine ap_call (by decide) (Nat.le_of_ble_eq_true rfl) rfl ?_
  refine ap_go kc_103_0 ?_
  refine ap_aload_n rfl ?_; refine ap_getR ow_103 rf_4_34 rfl rfl rfl ?_; refine ap_iload_n rfl ?_; refine ai_iconst ?_; refine ai_imul ?_; refine ap_iload_n rfl ?_; refine ai_bipush (by decide) ?_; refine ai_idiv ?_ ?_; refine ai_iadd ?_; refine ap_dup2 rfl rfl ?_; refine ai_laload (n := 242) rfl rfl (by decide) ?_ ?_; refine ai_lconst 1 rfl ?_; refine ap_iload_n rfl ?_; refine ai_bipush (by decide) ?_; refine ai_irem ?_ ?_; refine ai_lshl ?_; refine ai_lxor ?_; refine ai_lastore (n := 242) rfl rfl (by decide) ?_ ?_; refine ap_vret rfl ?_
  · exact K
  all_goals (omega)

theorem sp_115_27 {d L : Nat} {sw : Bool} {f g : Nat → Nat → Int} {Q : Option Value → am_H → Prop} {i : Int} (K1 : (i < 0 ∨ f 27 1 ≤ i ∨ f 28 i.toNat < 0) → Q (some (.int (iZ 0))) (53, sh_lt L, iH f, jH g, sh_rt sw)) (K2 : ¬ (i < 0 ∨ f 27 1 ≤ i ∨ f 28 i.toNat < 0) → Q (some (.int (iZ 1))) (53, sh_lt L, iH (am_up f 28 i.toNat (-(f 28 i.toNat))), jH g, sh_rt sw)) (hi : iR i) (hs : 0 ≤ f 27 1 ∧ f 27 1 ≤ 2400) (hv : ∀ k, iR (f 28 k)) : am_call (d + 1) 115 [.ref 27, .int (iZ i)] (53, sh_lt L, iH f, jH g, sh_rt sw) Q := by
  refine ap_call (by decide) (Nat.le_of_ble_eq_true rfl) rfl ?_
  refine ap_go kc_115_0 ?_
  refine ap_iload_n rfl ?_
  refine ai_iflt rfl rfl (fun hc0 => ?_) (fun hc0 => ?_) ?_
  · refine ap_go kc_115_21 ?_
    refine ai_iconst ?_; refine ai_zret rfl ?_ ?_
    · first | exact K1 (by omega) | exact K2 (by omega)
    all_goals (first | omega | exact hv _)
  · refine ap_go kc_115_4 ?_
    refine ap_iload_n rfl ?_; refine ap_aload_n rfl ?_; refine ai_getI ow_115 rf_5_15 rfl rfl ?_
    refine ai_icge rfl rfl (fun hc1 => ?_) (fun hc1 => ?_) ?_
    · refine ap_go kc_115_21 ?_
      refine ai_iconst ?_; refine ai_zret rfl ?_ ?_
      · first | exact K1 (by omega) | exact K2 (by omega)
      all_goals (first | omega | exact hv _)
    · refine ap_go kc_115_12 ?_
      refine ap_aload_n rfl ?_; refine ap_getR ow_115 rf_5_9 rfl rfl rfl ?_; refine ap_iload_n rfl ?_; refine ai_iaload (n := 2400) rfl rfl (by decide) ?_ ?_
      refine ai_ifge rfl rfl (fun hc2 => ?_) (fun hc2 => ?_) ?_
      · refine ap_go kc_115_23 ?_
        refine ap_aload_n rfl ?_; refine ap_getR ow_115 rf_5_9 rfl rfl rfl ?_; refine ap_iload_n rfl ?_; refine ap_aload_n rfl ?_; refine ap_getR ow_115 rf_5_9 rfl rfl rfl ?_; refine ap_iload_n rfl ?_; refine ai_iaload (n := 2400) rfl rfl (by decide) ?_ ?_; refine ai_ineg ?_; refine ai_iastore (n := 2400) rfl rfl (by decide) ?_ ?_; refine ai_iconst ?_; refine ai_zret rfl ?_ ?_
        · first | exact K1 (by omega) | exact K2 (by omega)
        all_goals (first | omega | exact hv _)
      · refine ap_go kc_115_21 ?_
        refine ai_iconst ?_; refine ai_zret rfl ?_ ?_
        · first | exact K1 (by omega) | exact K2 (by omega)
        all_goals (first | omega | exact hv _)
      all_goals (first | omega | exact hv _)
    all_goals (first | omega | exact hv _)
  all_goals (first | omega | exact hv _)

theorem lp_116_27 {d L : Nat} {sw : Bool} {f g : Nat → Nat → Int} {Q : Option Value → am_H → Prop} (K : ∀ x : Int, (x = 1 ∧ (f 27 1 = f 29 1 ∧ ∀ i : Nat, (i : Int) < f 27 1 → aZ (f 28 i) = aZ (f 30 i)) ∨ x = 0 ∧ ¬ (f 27 1 = f 29 1 ∧ ∀ i : Nat, (i : Int) < f 27 1 → aZ (f 28 i) = aZ (f 30 i))) → Q (some (.int (iZ x))) (53, sh_lt L, iH f, jH g, sh_rt sw)) (h1 : 0 ≤ f 27 1 ∧ f 27 1 ≤ 2400) (h2 : f 27 1 = f 29 1) (hv : ∀ k, iR (f 28 k)) (hw : ∀ k, iR (f 30 k)) (hm : ∀ k, f 28 k ≠ -2147483648) (hm2 : ∀ k, f 30 k ≠ -2147483648) : ∀ (m k : Nat), (f 27 1).toNat = k + m → (∀ i : Nat, i < k → aZ (f 28 i) = aZ (f 30 i)) → ∀ i : Int, i = k → am_Wp (am_call (d + 1)) 116 Q 15 [some (.ref 27), some (.ref 29), some (.int (iZ i))] [] (53, sh_lt L, iH f, jH g, sh_rt sw) (0, 0) := by
  intro m
  induction m with
  | zero =>
    intro k hk hall i ei
    refine ap_go kc_116_15 ?_
    refine ap_iload_n rfl ?_; refine ap_aload_n rfl ?_; refine ai_getI ow_116 rf_5_15 rfl rfl ?_
    refine ai_icge rfl rfl (fun hc0 => ?_) (fun hc0 => ?_) ?_
    · refine ap_go kc_116_44 ?_
      refine ai_iconst ?_; refine ai_zret rfl ?_ ?_
      · exact K 1 (Or.inl ⟨rfl, h2, fun z hz => hall z (by omega)⟩)
      all_goals (omega)
    · exfalso; omega
    all_goals (omega)
  | succ m ih =>
    intro k hk hall i ei
    have e1 : i.toNat = k := by omega
    have q1 := hv k
    have q2 := hw k
    have q3 := hm k
    have q4 := hm2 k
    rw [← e1] at q1 q2 q3 q4
    refine ap_go kc_116_15 ?_
    refine ap_iload_n rfl ?_; refine ap_aload_n rfl ?_; refine ai_getI ow_116 rf_5_15 rfl rfl ?_
    refine ai_icge rfl rfl (fun hc0 => ?_) (fun hc0 => ?_) ?_
    · exfalso; omega
    · refine ap_go kc_116_23 ?_
      refine ap_aload_n rfl ?_; refine ap_iload_n rfl ?_; refine ap_callv0 ow_116 rm_5_33 na_111 mc_111 ms_111 rfl rfl (Nat.le_of_ble_eq_true rfl) (Nat.le_of_ble_eq_true rfl) (Or.inr rfl) (Nat.zero_le _) (Nat.zero_le _) ?_; (first | refine sp_111_27 ?_ ?_ ?_ ?_ | refine sp_111_29 ?_ ?_ ?_ ?_); dsimp only [Option.toList_some, Option.toList_none, List.cons_append, List.nil_append]; refine ap_aload_n rfl ?_; refine ap_iload_n rfl ?_; refine ap_callv0 ow_116 rm_5_33 na_111 mc_111 ms_111 rfl rfl (Nat.le_of_ble_eq_true rfl) (Nat.le_of_ble_eq_true rfl) (Or.inr rfl) (Nat.zero_le _) (Nat.zero_le _) ?_; (first | refine sp_111_27 ?_ ?_ ?_ ?_ | refine sp_111_29 ?_ ?_ ?_ ?_); dsimp only [Option.toList_some, Option.toList_none, List.cons_append, List.nil_append]
      refine ai_iceq rfl rfl (fun hc1 => ?_) (fun hc1 => ?_) ?_
      · refine ap_go kc_116_38 ?_
        refine ai_iinc rfl rfl ?_; refine ap_goto rfl ?_
        refine ih (k + 1) (by omega) (fun z hz => ?_) _ (by omega); rw [if_pos (show 0 ≤ i ∧ i < f 27 1 by omega), if_pos (show 0 ≤ i ∧ i < f 29 1 by omega), e1] at hc1; rcases Nat.lt_or_ge z k with hzk | hzk; exact hall z hzk; rw [show z = k by omega]; exact hc1
      · refine ap_go kc_116_36 ?_
        refine ai_iconst ?_; refine ai_zret rfl ?_ ?_
        · refine K 0 (Or.inr ⟨rfl, fun z => ?_⟩); have := z.2 k (by omega); rw [if_pos (show 0 ≤ i ∧ i < f 27 1 by omega), if_pos (show 0 ≤ i ∧ i < f 29 1 by omega), e1] at hc1; exact hc1 this
        all_goals (first | omega | exact hv | exact hw | (split <;> split <;> omega))
      all_goals (first | omega | exact hv | exact hw | (split <;> split <;> omega))
    all_goals (first | omega | exact hv | exact hw | (split <;> split <;> omega))
theorem sp_116_27 {d L : Nat} {sw : Bool} {f g : Nat → Nat → Int} {Q : Option Value → am_H → Prop} (K : ∀ x : Int, (x = 1 ∧ (f 27 1 = f 29 1 ∧ ∀ i : Nat, (i : Int) < f 27 1 → aZ (f 28 i) = aZ (f 30 i)) ∨ x = 0 ∧ ¬ (f 27 1 = f 29 1 ∧ ∀ i : Nat, (i : Int) < f 27 1 → aZ (f 28 i) = aZ (f 30 i))) → Q (some (.int (iZ x))) (53, sh_lt L, iH f, jH g, sh_rt sw)) (h1 : 0 ≤ f 27 1 ∧ f 27 1 ≤ 2400) (h2 : 0 ≤ f 29 1 ∧ f 29 1 ≤ 2400) (hv : ∀ k, iR (f 28 k)) (hw : ∀ k, iR (f 30 k)) (hm : ∀ k, f 28 k ≠ -2147483648) (hm2 : ∀ k, f 30 k ≠ -2147483648) : am_call (d + 2) 116 [.ref 27, .ref 29] (53, sh_lt L, iH f, jH g, sh_rt sw) Q := by
  refine ap_call (by decide) (Nat.le_of_ble_eq_true rfl) rfl ?_
  refine ap_go kc_116_0 ?_
  refine ap_aload_n rfl ?_; refine ai_getI ow_116 rf_5_15 rfl rfl ?_; refine ap_aload_n rfl ?_; refine ai_getI ow_116 rf_5_15 rfl rfl ?_
  refine ai_iceq rfl rfl (fun hc0 => ?_) (fun hc0 => ?_) ?_
  · refine ap_go kc_116_13 ?_
    refine ai_iconst ?_; refine ap_istore_n rfl ?_; refine ap_nil ?_
    exact lp_116_27 K h1 (by omega) hv hw hm hm2 (f 27 1).toNat 0 (by omega) (fun _ h => absurd h (by omega)) 0 rfl
  · refine ap_go kc_116_11 ?_
    refine ai_iconst ?_; refine ai_zret rfl ?_ ?_
    · exact K 0 (Or.inr ⟨rfl, fun z => by omega⟩)
    all_goals (omega)
  all_goals (omega)

theorem sp_115_29 {d L : Nat} {sw : Bool} {f g : Nat → Nat → Int} {Q : Option Value → am_H → Prop} {i : Int} (K1 : (i < 0 ∨ f 29 1 ≤ i ∨ f 30 i.toNat < 0) → Q (some (.int (iZ 0))) (53, sh_lt L, iH f, jH g, sh_rt sw)) (K2 : ¬ (i < 0 ∨ f 29 1 ≤ i ∨ f 30 i.toNat < 0) → Q (some (.int (iZ 1))) (53, sh_lt L, iH (am_up f 30 i.toNat (-(f 30 i.toNat))), jH g, sh_rt sw)) (hi : iR i) (hs : 0 ≤ f 29 1 ∧ f 29 1 ≤ 2400) (hv : ∀ k, iR (f 30 k)) : am_call (d + 1) 115 [.ref 29, .int (iZ i)] (53, sh_lt L, iH f, jH g, sh_rt sw) Q := by
  refine ap_call (by decide) (Nat.le_of_ble_eq_true rfl) rfl ?_
  refine ap_go kc_115_0 ?_
  refine ap_iload_n rfl ?_
  refine ai_iflt rfl rfl (fun hc0 => ?_) (fun hc0 => ?_) ?_
  · refine ap_go kc_115_21 ?_
    refine ai_iconst ?_; refine ai_zret rfl ?_ ?_
    · first | exact K1 (by omega) | exact K2 (by omega)
    all_goals (first | omega | exact hv _)
  · refine ap_go kc_115_4 ?_
    refine ap_iload_n rfl ?_; refine ap_aload_n rfl ?_; refine ai_getI ow_115 rf_5_15 rfl rfl ?_
    refine ai_icge rfl rfl (fun hc1 => ?_) (fun hc1 => ?_) ?_
    · refine ap_go kc_115_21 ?_
      refine ai_iconst ?_; refine ai_zret rfl ?_ ?_
      · first | exact K1 (by omega) | exact K2 (by omega)
      all_goals (first | omega | exact hv _)
    · refine ap_go kc_115_12 ?_
      refine ap_aload_n rfl ?_; refine ap_getR ow_115 rf_5_9 rfl rfl rfl ?_; refine ap_iload_n rfl ?_; refine ai_iaload (n := 2400) rfl rfl (by decide) ?_ ?_
      refine ai_ifge rfl rfl (fun hc2 => ?_) (fun hc2 => ?_) ?_
      · refine ap_go kc_115_23 ?_
        refine ap_aload_n rfl ?_; refine ap_getR ow_115 rf_5_9 rfl rfl rfl ?_; refine ap_iload_n rfl ?_; refine ap_aload_n rfl ?_; refine ap_getR ow_115 rf_5_9 rfl rfl rfl ?_; refine ap_iload_n rfl ?_; refine ai_iaload (n := 2400) rfl rfl (by decide) ?_ ?_; refine ai_ineg ?_; refine ai_iastore (n := 2400) rfl rfl (by decide) ?_ ?_; refine ai_iconst ?_; refine ai_zret rfl ?_ ?_
        · first | exact K1 (by omega) | exact K2 (by omega)
        all_goals (first | omega | exact hv _)
      · refine ap_go kc_115_21 ?_
        refine ai_iconst ?_; refine ai_zret rfl ?_ ?_
        · first | exact K1 (by omega) | exact K2 (by omega)
        all_goals (first | omega | exact hv _)
      all_goals (first | omega | exact hv _)
    all_goals (first | omega | exact hv _)
  all_goals (first | omega | exact hv _)

theorem lp_116_29 {d L : Nat} {sw : Bool} {f g : Nat → Nat → Int} {Q : Option Value → am_H → Prop} (K : ∀ x : Int, (x = 1 ∧ (f 29 1 = f 27 1 ∧ ∀ i : Nat, (i : Int) < f 29 1 → aZ (f 30 i) = aZ (f 28 i)) ∨ x = 0 ∧ ¬ (f 29 1 = f 27 1 ∧ ∀ i : Nat, (i : Int) < f 29 1 → aZ (f 30 i) = aZ (f 28 i))) → Q (some (.int (iZ x))) (53, sh_lt L, iH f, jH g, sh_rt sw)) (h1 : 0 ≤ f 29 1 ∧ f 29 1 ≤ 2400) (h2 : f 29 1 = f 27 1) (hv : ∀ k, iR (f 30 k)) (hw : ∀ k, iR (f 28 k)) (hm : ∀ k, f 30 k ≠ -2147483648) (hm2 : ∀ k, f 28 k ≠ -2147483648) : ∀ (m k : Nat), (f 29 1).toNat = k + m → (∀ i : Nat, i < k → aZ (f 30 i) = aZ (f 28 i)) → ∀ i : Int, i = k → am_Wp (am_call (d + 1)) 116 Q 15 [some (.ref 29), some (.ref 27), some (.int (iZ i))] [] (53, sh_lt L, iH f, jH g, sh_rt sw) (0, 0) := by
  intro m
  induction m with
  | zero =>
    intro k hk hall i ei
    refine ap_go kc_116_15 ?_
    refine ap_iload_n rfl ?_; refine ap_aload_n rfl ?_; refine ai_getI ow_116 rf_5_15 rfl rfl ?_
    refine ai_icge rfl rfl (fun hc0 => ?_) (fun hc0 => ?_) ?_
    · refine ap_go kc_116_44 ?_
      refine ai_iconst ?_; refine ai_zret rfl ?_ ?_
      · exact K 1 (Or.inl ⟨rfl, h2, fun z hz => hall z (by omega)⟩)
      all_goals (omega)
    · exfalso; omega
    all_goals (omega)
  | succ m ih =>
    intro k hk hall i ei
    have e1 : i.toNat = k := by omega
    have q1 := hv k
    have q2 := hw k
    have q3 := hm k
    have q4 := hm2 k
    rw [← e1] at q1 q2 q3 q4
    refine ap_go kc_116_15 ?_
    refine ap_iload_n rfl ?_; refine ap_aload_n rfl ?_; refine ai_getI ow_116 rf_5_15 rfl rfl ?_
    refine ai_icge rfl rfl (fun hc0 => ?_) (fun hc0 => ?_) ?_
    · exfalso; omega
    · refine ap_go kc_116_23 ?_
      refine ap_aload_n rfl ?_; refine ap_iload_n rfl ?_; refine ap_callv0 ow_116 rm_5_33 na_111 mc_111 ms_111 rfl rfl (Nat.le_of_ble_eq_true rfl) (Nat.le_of_ble_eq_true rfl) (Or.inr rfl) (Nat.zero_le _) (Nat.zero_le _) ?_; (first | refine sp_111_29 ?_ ?_ ?_ ?_ | refine sp_111_27 ?_ ?_ ?_ ?_); dsimp only [Option.toList_some, Option.toList_none, List.cons_append, List.nil_append]; refine ap_aload_n rfl ?_; refine ap_iload_n rfl ?_; refine ap_callv0 ow_116 rm_5_33 na_111 mc_111 ms_111 rfl rfl (Nat.le_of_ble_eq_true rfl) (Nat.le_of_ble_eq_true rfl) (Or.inr rfl) (Nat.zero_le _) (Nat.zero_le _) ?_; (first | refine sp_111_29 ?_ ?_ ?_ ?_ | refine sp_111_27 ?_ ?_ ?_ ?_); dsimp only [Option.toList_some, Option.toList_none, List.cons_append, List.nil_append]
      refine ai_iceq rfl rfl (fun hc1 => ?_) (fun hc1 => ?_) ?_
      · refine ap_go kc_116_38 ?_
        refine ai_iinc rfl rfl ?_; refine ap_goto rfl ?_
        refine ih (k + 1) (by omega) (fun z hz => ?_) _ (by omega); rw [if_pos (show 0 ≤ i ∧ i < f 29 1 by omega), if_pos (show 0 ≤ i ∧ i < f 27 1 by omega), e1] at hc1; rcases Nat.lt_or_ge z k with hzk | hzk; exact hall z hzk; rw [show z = k by omega]; exact hc1
      · refine ap_go kc_116_36 ?_
        refine ai_iconst ?_; refine ai_zret rfl ?_ ?_
        · refine K 0 (Or.inr ⟨rfl, fun z => ?_⟩); have := z.2 k (by omega); rw [if_pos (show 0 ≤ i ∧ i < f 29 1 by omega), if_pos (show 0 ≤ i ∧ i < f 27 1 by omega), e1] at hc1; exact hc1 this
        all_goals (first | omega | exact hv | exact hw | (split <;> split <;> omega))
      all_goals (first | omega | exact hv | exact hw | (split <;> split <;> omega))
    all_goals (first | omega | exact hv | exact hw | (split <;> split <;> omega))
theorem sp_116_29 {d L : Nat} {sw : Bool} {f g : Nat → Nat → Int} {Q : Option Value → am_H → Prop} (K : ∀ x : Int, (x = 1 ∧ (f 29 1 = f 27 1 ∧ ∀ i : Nat, (i : Int) < f 29 1 → aZ (f 30 i) = aZ (f 28 i)) ∨ x = 0 ∧ ¬ (f 29 1 = f 27 1 ∧ ∀ i : Nat, (i : Int) < f 29 1 → aZ (f 30 i) = aZ (f 28 i))) → Q (some (.int (iZ x))) (53, sh_lt L, iH f, jH g, sh_rt sw)) (h1 : 0 ≤ f 29 1 ∧ f 29 1 ≤ 2400) (h2 : 0 ≤ f 27 1 ∧ f 27 1 ≤ 2400) (hv : ∀ k, iR (f 30 k)) (hw : ∀ k, iR (f 28 k)) (hm : ∀ k, f 30 k ≠ -2147483648) (hm2 : ∀ k, f 28 k ≠ -2147483648) : am_call (d + 2) 116 [.ref 29, .ref 27] (53, sh_lt L, iH f, jH g, sh_rt sw) Q := by
  refine ap_call (by decide) (Nat.le_of_ble_eq_true rfl) rfl ?_
  refine ap_go kc_116_0 ?_
  refine ap_aload_n rfl ?_; refine ai_getI ow_116 rf_5_15 rfl rfl ?_; refine ap_aload_n rfl ?_; refine ai_getI ow_116 rf_5_15 rfl rfl ?_
  refine ai_iceq rfl rfl (fun hc0 => ?_) (fun hc0 => ?_) ?_
  · refine ap_go kc_116_13 ?_
    refine ai_iconst ?_; refine ap_istore_n rfl ?_; refine ap_nil ?_
    exact lp_116_29 K h1 (by omega) hv hw hm hm2 (f 29 1).toNat 0 (by omega) (fun _ h => absurd h (by omega)) 0 rfl
  · refine ap_go kc_116_11 ?_
    refine ai_iconst ?_; refine ai_zret rfl ?_ ?_
    · exact K 0 (Or.inr ⟨rfl, fun z => by omega⟩)
    all_goals (omega)
  all_goals (omega)

theorem sp_73 {d L : Nat} {sw : Bool} {f g : Nat → Nat → Int} {Q : Option Value → am_H → Prop} {c : Int} (K : Q (some (.int (iZ (if 97 ≤ c ∧ c ≤ 122 then 1 else 0)))) (53, sh_lt L, iH f, jH g, sh_rt sw)) (hc : iR c) : am_call (d + 1) 73 [.ref 24, .int (iZ c)] (53, sh_lt L, iH f, jH g, sh_rt sw) Q := by
  refine ap_call (by decide) (Nat.le_of_ble_eq_true rfl) rfl ?_
  refine ap_go kc_73_0 ?_
  refine ap_iload_n rfl ?_; refine ai_bipush (by decide) ?_
  refine ai_iclt rfl rfl (fun hb0 => ?_) (fun hb0 => ?_) ?_
  · refine ap_go kc_73_16 ?_
    refine ai_iconst ?_; refine ap_nil ?_
    refine ap_go kc_73_17 ?_
    refine ai_zret rfl ?_ ?_
    · exact sq K (by first | rfl | omega | (split <;> omega) | (split <;> split <;> omega))
    all_goals (omega)
  · refine ap_go kc_73_6 ?_
    refine ap_iload_n rfl ?_; refine ai_bipush (by decide) ?_
    refine ai_icgt rfl rfl (fun hb1 => ?_) (fun hb1 => ?_) ?_
    · refine ap_go kc_73_16 ?_
      refine ai_iconst ?_; refine ap_nil ?_
      refine ap_go kc_73_17 ?_
      refine ai_zret rfl ?_ ?_
      · exact sq K (by first | rfl | omega | (split <;> omega) | (split <;> split <;> omega))
      all_goals (omega)
    · refine ap_go kc_73_12 ?_
      refine ai_iconst ?_; refine ap_goto rfl ?_
      refine ap_go kc_73_17 ?_
      refine ai_zret rfl ?_ ?_
      · exact sq K (by first | rfl | omega | (split <;> omega) | (split <;> split <;> omega))
      all_goals (omega)
    all_goals (omega)
  all_goals (omega)

theorem sp_74 {d L : Nat} {sw : Bool} {f g : Nat → Nat → Int} {Q : Option Value → am_H → Prop}  (K : Q (some (.int (iZ (if 3 ≤ f 24 1 then 1 else 0)))) (53, sh_lt L, iH f, jH g, sh_rt sw)) (hc : iR (f 24 1)) : am_call (d + 1) 74 [.ref 24] (53, sh_lt L, iH f, jH g, sh_rt sw) Q := by
  refine ap_call (by decide) (Nat.le_of_ble_eq_true rfl) rfl ?_
  refine ap_go kc_74_0 ?_
  refine ap_aload_n rfl ?_; refine ai_getI ow_74 rf_2_13 rfl rfl ?_; refine ai_iconst ?_
  refine ai_iclt rfl rfl (fun hb0 => ?_) (fun hb0 => ?_) ?_
  · refine ap_go kc_74_12 ?_
    refine ai_iconst ?_; refine ap_nil ?_
    refine ap_go kc_74_13 ?_
    refine ai_zret rfl ?_ ?_
    · exact sq K (by first | rfl | omega | (split <;> omega) | (split <;> split <;> omega))
    all_goals (omega)
  · refine ap_go kc_74_8 ?_
    refine ai_iconst ?_; refine ap_goto rfl ?_
    refine ap_go kc_74_13 ?_
    refine ai_zret rfl ?_ ?_
    · exact sq K (by first | rfl | omega | (split <;> omega) | (split <;> split <;> omega))
    all_goals (omega)
  all_goals (omega)

theorem sp_75 {d L : Nat} {sw : Bool} {f g : Nat → Nat → Int} {Q : Option Value → am_H → Prop}  (K : Q none (53, sh_lt L, iH (am_up f 24 1 0), jH g, sh_rt sw))  : am_call (d + 1) 75 [.ref 24] (53, sh_lt L, iH f, jH g, sh_rt sw) Q := by
  refine ap_call (by decide) (Nat.le_of_ble_eq_true rfl) rfl ?_
  refine ap_go kc_75_0 ?_
  refine ap_aload_n rfl ?_; refine ai_iconst ?_; refine ai_putI ow_75 rf_2_13 rfl rfl rfl ?_; refine ap_vret rfl ?_
  exact K

theorem sp_76 {d L : Nat} {sw : Bool} {f g : Nat → Nat → Int} {Q : Option Value → am_H → Prop} {c : Int} (K : Q none (53, sh_lt L, iH (am_up (am_up f 25 (f 24 1).toNat (c - 97)) 24 1 (f 24 1 + 1)), jH g, sh_rt sw)) (hs : 0 ≤ f 24 1 ∧ f 24 1 < 3) : am_call (d + 1) 76 [.ref 24, .int (iZ c)] (53, sh_lt L, iH f, jH g, sh_rt sw) Q := by
  refine ap_call (by decide) (Nat.le_of_ble_eq_true rfl) rfl ?_
  refine ap_go kc_76_0 ?_
  refine ap_aload_n rfl ?_; refine ai_getI ow_76 rf_2_13 rfl rfl ?_; refine ai_iconst ?_
  refine ai_icge rfl rfl (fun hb0 => ?_) (fun hb0 => ?_) ?_
  · refine ap_go kc_76_31 ?_
    refine ap_vret rfl ?_
    first | exact K | (exfalso; omega)
  · refine ap_go kc_76_8 ?_
    refine ap_aload_n rfl ?_; refine ap_getR ow_76 rf_2_9 rfl rfl rfl ?_; refine ap_aload_n rfl ?_; refine ai_getI ow_76 rf_2_13 rfl rfl ?_; refine ap_iload_n rfl ?_; refine ai_bipush (by decide) ?_; refine ai_isub ?_; refine ai_iastore (n := 3) rfl rfl (by decide) ?_ ?_; refine ap_aload_n rfl ?_; refine ap_dup rfl ?_; refine ai_getI ow_76 rf_2_13 rfl rfl ?_; refine ai_iconst ?_; refine ai_iadd ?_; refine ai_putI ow_76 rf_2_13 rfl rfl rfl ?_; refine ap_nil ?_
    · refine ap_go kc_76_31 ?_
      refine ap_vret rfl ?_
      first | exact K | (exfalso; omega)
    all_goals (omega)
  all_goals (omega)

def letZ (n i : Int) : Int := if i = 0 then n / 676 else if i = 1 then n / 26 % 26 else n % 26
theorem sp_79 {d L : Nat} {sw : Bool} {f g : Nat → Nat → Int} {Q : Option Value → am_H → Prop} {n i : Int} (K : Q (some (.int (iZ (letZ n i)))) (53, sh_lt L, iH f, jH g, sh_rt sw)) (hn : 0 ≤ n ∧ n < 2147483648) (hi : iR i) : am_call (d + 1) 79 [.int (iZ n), .int (iZ i)] (53, sh_lt L, iH f, jH g, sh_rt sw) Q := by
  refine ap_call (by decide) (Nat.le_of_ble_eq_true rfl) rfl ?_
  refine ap_go kc_79_0 ?_
  refine ap_iload_n rfl ?_
  refine ai_lsw2 rfl rfl rfl (fun hb0 => ?_) (fun hb0 => ?_) (fun hb0 hb0' => ?_) ?_
  · refine ap_go kc_79_28 ?_
    refine ap_iload_n rfl ?_; refine ai_sipush (by decide) ?_; refine ai_idiv ?_ ?_; refine ap_iret rfl ?_
    · refine sq K ?_; unfold letZ; simp_all
    all_goals (omega)
  · refine ap_go kc_79_34 ?_
    refine ap_iload_n rfl ?_; refine ai_bipush (by decide) ?_; refine ai_idiv ?_ ?_; refine ai_bipush (by decide) ?_; refine ai_irem ?_ ?_; refine ap_iret rfl ?_
    · refine sq K ?_; unfold letZ; simp_all
    all_goals (omega)
  · refine ap_go kc_79_42 ?_
    refine ap_iload_n rfl ?_; refine ai_bipush (by decide) ?_; refine ai_irem ?_ ?_; refine ap_iret rfl ?_
    · refine sq K ?_; unfold letZ; simp_all
    all_goals (omega)
  all_goals (omega)

theorem sp_71 {d L : Nat} {sw : Bool} {f g : Nat → Nat → Int} {Q : Option Value → am_H → Prop} {e n : Int} (K1 : (f 26 1 = 0 ∨ f 26 1 = 255 ∧ f 26 0 < e) → Q (some (.int (iZ 1))) (53, sh_lt L, iH (am_up (am_up f 26 0 e) 26 1 (b_shl 1 n)), jH g, sh_rt sw)) (K2 : ¬ (f 26 1 = 0 ∨ f 26 1 = 255 ∧ f 26 0 < e) → (¬ e = f 26 0 ∨ ¬ b_and (b_shr (f 26 1) n) 1 = 0) → Q (some (.int (iZ 0))) (53, sh_lt L, iH f, jH g, sh_rt sw)) (K3 : ¬ (f 26 1 = 0 ∨ f 26 1 = 255 ∧ f 26 0 < e) → ¬ (¬ e = f 26 0 ∨ ¬ b_and (b_shr (f 26 1) n) 1 = 0) → Q (some (.int (iZ 1))) (53, sh_lt L, iH (am_up f 26 1 (b_or (f 26 1) (b_shl 1 n))), jH g, sh_rt sw)) (he : iR e) (h1 : iR (f 26 0)) (h2 : iR (f 26 1)) : am_call (d + 1) 71 [.ref 26, .int (iZ e), .int (iZ n)] (53, sh_lt L, iH f, jH g, sh_rt sw) Q := by
  refine ap_call (by decide) (Nat.le_of_ble_eq_true rfl) rfl ?_
  refine ap_go kc_71_0 ?_
  refine ap_aload_n rfl ?_; refine ai_getI ow_71 rf_1_13 rfl rfl ?_
  refine ai_ifeq rfl rfl (fun hb0 => ?_) (fun hb0 => ?_) ?_
  · refine ap_go kc_71_25 ?_
    refine ap_aload_n rfl ?_; refine ap_iload_n rfl ?_; refine ai_putI ow_71 rf_1_9 rfl rfl rfl ?_; refine ap_aload_n rfl ?_; refine ai_iconst ?_; refine ap_iload_n rfl ?_; refine ai_ishl ?_; refine ai_putI ow_71 rf_1_13 rfl rfl rfl ?_; refine ai_iconst ?_; refine ai_zret rfl ?_ ?_
    · first | exact K1 (by omega) | exact K2 (by omega) (by omega) | exact K3 (by omega) (by omega)
    all_goals (first | omega | exact iR_T _)
  · refine ap_go kc_71_7 ?_
    refine ap_aload_n rfl ?_; refine ai_getI ow_71 rf_1_13 rfl rfl ?_; refine ai_sipush (by decide) ?_
    refine ai_icne rfl rfl (fun hb1 => ?_) (fun hb1 => ?_) ?_
    · refine ap_go kc_71_39 ?_
      refine ap_iload_n rfl ?_; refine ap_aload_n rfl ?_; refine ai_getI ow_71 rf_1_9 rfl rfl ?_
      refine ai_icne rfl rfl (fun hb2 => ?_) (fun hb2 => ?_) ?_
      · refine ap_go kc_71_58 ?_
        refine ai_iconst ?_; refine ai_zret rfl ?_ ?_
        · first | exact K1 (by omega) | exact K2 (by omega) (by omega) | exact K3 (by omega) (by omega)
        all_goals (first | omega | exact iR_T _)
      · refine ap_go kc_71_47 ?_
        refine ap_aload_n rfl ?_; refine ai_getI ow_71 rf_1_13 rfl rfl ?_; refine ap_iload_n rfl ?_; refine ai_ishr ?_; refine ai_iconst ?_; refine ai_iand ?_
        refine ai_ifeq rfl rfl (fun hb3 => ?_) (fun hb3 => ?_) ?_
        · refine ap_go kc_71_60 ?_
          refine ap_aload_n rfl ?_; refine ap_dup rfl ?_; refine ai_getI ow_71 rf_1_13 rfl rfl ?_; refine ai_iconst ?_; refine ap_iload_n rfl ?_; refine ai_ishl ?_; refine ai_ior ?_; refine ai_putI ow_71 rf_1_13 rfl rfl rfl ?_; refine ai_iconst ?_; refine ai_zret rfl ?_ ?_
          · first | exact K1 (by omega) | exact K2 (by omega) (by omega) | exact K3 (by omega) (by omega)
          all_goals (first | omega | exact iR_T _)
        · refine ap_go kc_71_58 ?_
          refine ai_iconst ?_; refine ai_zret rfl ?_ ?_
          · first | exact K1 (by omega) | exact K2 (by omega) (by omega) | exact K3 (by omega) (by omega)
          all_goals (first | omega | exact iR_T _)
        all_goals (first | omega | exact iR_T _)
      all_goals (first | omega | exact iR_T _)
    · refine ap_go kc_71_17 ?_
      refine ap_iload_n rfl ?_; refine ap_aload_n rfl ?_; refine ai_getI ow_71 rf_1_9 rfl rfl ?_
      refine ai_icle rfl rfl (fun hb4 => ?_) (fun hb4 => ?_) ?_
      · refine ap_go kc_71_39 ?_
        refine ap_iload_n rfl ?_; refine ap_aload_n rfl ?_; refine ai_getI ow_71 rf_1_9 rfl rfl ?_
        refine ai_icne rfl rfl (fun hb5 => ?_) (fun hb5 => ?_) ?_
        · refine ap_go kc_71_58 ?_
          refine ai_iconst ?_; refine ai_zret rfl ?_ ?_
          · first | exact K1 (by omega) | exact K2 (by omega) (by omega) | exact K3 (by omega) (by omega)
          all_goals (first | omega | exact iR_T _)
        · refine ap_go kc_71_47 ?_
          refine ap_aload_n rfl ?_; refine ai_getI ow_71 rf_1_13 rfl rfl ?_; refine ap_iload_n rfl ?_; refine ai_ishr ?_; refine ai_iconst ?_; refine ai_iand ?_
          refine ai_ifeq rfl rfl (fun hb6 => ?_) (fun hb6 => ?_) ?_
          · refine ap_go kc_71_60 ?_
            refine ap_aload_n rfl ?_; refine ap_dup rfl ?_; refine ai_getI ow_71 rf_1_13 rfl rfl ?_; refine ai_iconst ?_; refine ap_iload_n rfl ?_; refine ai_ishl ?_; refine ai_ior ?_; refine ai_putI ow_71 rf_1_13 rfl rfl rfl ?_; refine ai_iconst ?_; refine ai_zret rfl ?_ ?_
            · first | exact K1 (by omega) | exact K2 (by omega) (by omega) | exact K3 (by omega) (by omega)
            all_goals (first | omega | exact iR_T _)
          · refine ap_go kc_71_58 ?_
            refine ai_iconst ?_; refine ai_zret rfl ?_ ?_
            · first | exact K1 (by omega) | exact K2 (by omega) (by omega) | exact K3 (by omega) (by omega)
            all_goals (first | omega | exact iR_T _)
          all_goals (first | omega | exact iR_T _)
        all_goals (first | omega | exact iR_T _)
      · refine ap_go kc_71_25 ?_
        refine ap_aload_n rfl ?_; refine ap_iload_n rfl ?_; refine ai_putI ow_71 rf_1_9 rfl rfl rfl ?_; refine ap_aload_n rfl ?_; refine ai_iconst ?_; refine ap_iload_n rfl ?_; refine ai_ishl ?_; refine ai_putI ow_71 rf_1_13 rfl rfl rfl ?_; refine ai_iconst ?_; refine ai_zret rfl ?_ ?_
        · first | exact K1 (by omega) | exact K2 (by omega) (by omega) | exact K3 (by omega) (by omega)
        all_goals (first | omega | exact iR_T _)
      all_goals (first | omega | exact iR_T _)
    all_goals (first | omega | exact iR_T _)
  all_goals (first | omega | exact iR_T _)

theorem sp_67 {d L : Nat} {sw : Bool} {f g : Nat → Nat → Int} {Q : Option Value → am_H → Prop} {ax ay bx b : Int} (K : Q (some (.int (iZ (advZ (ax * b - ay * bx) (ax * bx + ay * b))))) (53, sh_lt L, iH f, jH g, sh_rt sw)) (h1 : -2000000000 ≤ ax * b - ay * bx ∧ ax * b - ay * bx ≤ 2000000000) (h2 : -2000000000 ≤ ax * bx + ay * b ∧ ax * bx + ay * b ≤ 2000000000) : am_call (d + 1) 67 [.long (lZ ax), .long (lZ ay), .long (lZ bx), .long (lZ b)] (53, sh_lt L, iH f, jH g, sh_rt sw) Q := by
  refine ap_call (by decide) (Nat.le_of_ble_eq_true rfl) rfl ?_
  refine ap_go kc_67_0 ?_
  refine ap_lload_n rfl ?_; refine ap_lload rfl ?_; refine ai_lmul ?_; refine ap_lload_n rfl ?_; refine ap_lload rfl ?_; refine ai_lmul ?_; refine ai_lsub ?_; refine ap_lstore rfl ?_; refine ap_lload_n rfl ?_; refine ap_lload rfl ?_; refine ai_lmul ?_; refine ap_lload_n rfl ?_; refine ap_lload rfl ?_; refine ai_lmul ?_; refine ai_ladd ?_; refine ap_lstore rfl ?_; refine ai_ldc2 (2) ow_67 kl_9_7 rfl ?_; refine ap_lload rfl ?_; refine ai_mabsl ow_67 rm_9_9 (Nat.le_of_ble_eq_true rfl) ?_ ?_; refine ai_lmul ?_; refine ap_lstore rfl ?_; refine ap_lload rfl ?_; refine ap_lload rfl ?_
  refine ai_lcgt rfl rfl (fun hb0 => ?_) (fun hb0 => ?_) ?_
  · refine ap_go kc_67_43 ?_
    refine ap_lload rfl ?_; refine ap_lload rfl ?_; refine ai_lneg ?_
    refine ai_lcgt rfl rfl (fun hb1 => ?_) (fun hb1 => ?_) ?_
    · refine ap_go kc_67_54 ?_
      refine ap_lload rfl ?_; refine ai_lconst 0 rfl ?_
      refine ai_lcle rfl rfl (fun hb2 => ?_) (fun hb2 => ?_) ?_
      · refine ap_go kc_67_65 ?_
        refine ai_iconst ?_; refine ap_nil ?_
        refine ap_go kc_67_66 ?_
        refine ap_iret rfl ?_
        refine sq K ?_; unfold advZ; (repeat' split) <;> omega
      · refine ap_go kc_67_61 ?_
        refine ai_iconst ?_; refine ap_goto rfl ?_
        refine ap_go kc_67_66 ?_
        refine ap_iret rfl ?_
        refine sq K ?_; unfold advZ; (repeat' split) <;> omega
      all_goals (first | omega | (constructor <;> (split <;> omega)) | (split <;> omega))
    · refine ap_go kc_67_52 ?_
      refine ai_iconst ?_; refine ap_iret rfl ?_
      refine sq K ?_; unfold advZ; (repeat' split) <;> omega
    all_goals (first | omega | (constructor <;> (split <;> omega)) | (split <;> omega))
  · refine ap_go kc_67_41 ?_
    refine ai_iconst ?_; refine ap_iret rfl ?_
    refine sq K ?_; unfold advZ; (repeat' split) <;> omega
  all_goals (first | omega | (constructor <;> (split <;> omega)) | (split <;> omega))

theorem sp_68 {d L : Nat} {sw : Bool} {f g : Nat → Nat → Int} {Q : Option Value → am_H → Prop} {x y : Int} (K : Q (some (.int (iZ (octZ x y)))) (53, sh_lt L, iH f, jH g, sh_rt sw)) (hx : -100000 ≤ x ∧ x ≤ 100000) (hy : -100000 ≤ y ∧ y ≤ 100000) : am_call (d + 1) 68 [.long (lZ x), .long (lZ y)] (53, sh_lt L, iH f, jH g, sh_rt sw) Q := by
  refine ap_call (by decide) (Nat.le_of_ble_eq_true rfl) rfl ?_
  refine ap_go kc_68_0 ?_
  refine ap_lload_n rfl ?_; refine ai_lconst 0 rfl ?_
  refine ai_lcle rfl rfl (fun hb0 => ?_) (fun hb0 => ?_) ?_
  · refine ap_go kc_68_24 ?_
    refine ap_lload_n rfl ?_; refine ai_lconst 0 rfl ?_
    refine ai_lcgt rfl rfl (fun hb1 => ?_) (fun hb1 => ?_) ?_
    · refine ap_go kc_68_49 ?_
      refine ap_lload_n rfl ?_; refine ai_lconst 0 rfl ?_
      refine ai_lcge rfl rfl (fun hb2 => ?_) (fun hb2 => ?_) ?_
      · refine ap_go kc_68_69 ?_
        refine ap_lload_n rfl ?_; refine ai_lconst 0 rfl ?_
        refine ai_lcge rfl rfl (fun hb3 => ?_) (fun hb3 => ?_) ?_
        · refine ap_go kc_68_90 ?_
          refine ai_iconst ?_; refine ap_iret rfl ?_
          refine sq K ?_; unfold octZ; (repeat' split) <;> omega
        · refine ap_go kc_68_75 ?_
          refine ap_lload_n rfl ?_; refine ap_lload_n rfl ?_; refine ai_lneg ?_
          refine ai_lcge rfl rfl (fun hb4 => ?_) (fun hb4 => ?_) ?_
          · refine ap_go kc_68_87 ?_
            refine ai_bipush (by decide) ?_; refine ap_nil ?_
            refine ap_go kc_68_89 ?_
            refine ap_iret rfl ?_
            refine sq K ?_; unfold octZ; (repeat' split) <;> omega
          · refine ap_go kc_68_82 ?_
            refine ai_bipush (by decide) ?_; refine ap_goto rfl ?_
            refine ap_go kc_68_89 ?_
            refine ap_iret rfl ?_
            refine sq K ?_; unfold octZ; (repeat' split) <;> omega
          all_goals (omega)
        all_goals (omega)
      · refine ap_go kc_68_55 ?_
        refine ap_lload_n rfl ?_; refine ai_lneg ?_; refine ap_lload_n rfl ?_; refine ai_lneg ?_
        refine ai_lcge rfl rfl (fun hb5 => ?_) (fun hb5 => ?_) ?_
        · refine ap_go kc_68_67 ?_
          refine ai_iconst ?_; refine ap_nil ?_
          refine ap_go kc_68_68 ?_
          refine ap_iret rfl ?_
          refine sq K ?_; unfold octZ; (repeat' split) <;> omega
        · refine ap_go kc_68_63 ?_
          refine ai_iconst ?_; refine ap_goto rfl ?_
          refine ap_go kc_68_68 ?_
          refine ap_iret rfl ?_
          refine sq K ?_; unfold octZ; (repeat' split) <;> omega
        all_goals (omega)
      all_goals (omega)
    · refine ap_go kc_68_30 ?_
      refine ap_lload_n rfl ?_; refine ai_lconst 0 rfl ?_
      refine ai_lcle rfl rfl (fun hb6 => ?_) (fun hb6 => ?_) ?_
      · refine ap_go kc_68_49 ?_
        refine ap_lload_n rfl ?_; refine ai_lconst 0 rfl ?_
        refine ai_lcge rfl rfl (fun hb7 => ?_) (fun hb7 => ?_) ?_
        · refine ap_go kc_68_69 ?_
          refine ap_lload_n rfl ?_; refine ai_lconst 0 rfl ?_
          refine ai_lcge rfl rfl (fun hb8 => ?_) (fun hb8 => ?_) ?_
          · refine ap_go kc_68_90 ?_
            refine ai_iconst ?_; refine ap_iret rfl ?_
            refine sq K ?_; unfold octZ; (repeat' split) <;> omega
          · refine ap_go kc_68_75 ?_
            refine ap_lload_n rfl ?_; refine ap_lload_n rfl ?_; refine ai_lneg ?_
            refine ai_lcge rfl rfl (fun hb9 => ?_) (fun hb9 => ?_) ?_
            · refine ap_go kc_68_87 ?_
              refine ai_bipush (by decide) ?_; refine ap_nil ?_
              refine ap_go kc_68_89 ?_
              refine ap_iret rfl ?_
              refine sq K ?_; unfold octZ; (repeat' split) <;> omega
            · refine ap_go kc_68_82 ?_
              refine ai_bipush (by decide) ?_; refine ap_goto rfl ?_
              refine ap_go kc_68_89 ?_
              refine ap_iret rfl ?_
              refine sq K ?_; unfold octZ; (repeat' split) <;> omega
            all_goals (omega)
          all_goals (omega)
        · refine ap_go kc_68_55 ?_
          refine ap_lload_n rfl ?_; refine ai_lneg ?_; refine ap_lload_n rfl ?_; refine ai_lneg ?_
          refine ai_lcge rfl rfl (fun hb10 => ?_) (fun hb10 => ?_) ?_
          · refine ap_go kc_68_67 ?_
            refine ai_iconst ?_; refine ap_nil ?_
            refine ap_go kc_68_68 ?_
            refine ap_iret rfl ?_
            refine sq K ?_; unfold octZ; (repeat' split) <;> omega
          · refine ap_go kc_68_63 ?_
            refine ai_iconst ?_; refine ap_goto rfl ?_
            refine ap_go kc_68_68 ?_
            refine ap_iret rfl ?_
            refine sq K ?_; unfold octZ; (repeat' split) <;> omega
          all_goals (omega)
        all_goals (omega)
      · refine ap_go kc_68_36 ?_
        refine ap_lload_n rfl ?_; refine ai_lneg ?_; refine ap_lload_n rfl ?_
        refine ai_lcge rfl rfl (fun hb11 => ?_) (fun hb11 => ?_) ?_
        · refine ap_go kc_68_47 ?_
          refine ai_iconst ?_; refine ap_nil ?_
          refine ap_go kc_68_48 ?_
          refine ap_iret rfl ?_
          refine sq K ?_; unfold octZ; (repeat' split) <;> omega
        · refine ap_go kc_68_43 ?_
          refine ai_iconst ?_; refine ap_goto rfl ?_
          refine ap_go kc_68_48 ?_
          refine ap_iret rfl ?_
          refine sq K ?_; unfold octZ; (repeat' split) <;> omega
        all_goals (omega)
      all_goals (omega)
    all_goals (omega)
  · refine ap_go kc_68_6 ?_
    refine ap_lload_n rfl ?_; refine ai_lconst 0 rfl ?_
    refine ai_lclt rfl rfl (fun hb12 => ?_) (fun hb12 => ?_) ?_
    · refine ap_go kc_68_24 ?_
      refine ap_lload_n rfl ?_; refine ai_lconst 0 rfl ?_
      refine ai_lcgt rfl rfl (fun hb13 => ?_) (fun hb13 => ?_) ?_
      · refine ap_go kc_68_49 ?_
        refine ap_lload_n rfl ?_; refine ai_lconst 0 rfl ?_
        refine ai_lcge rfl rfl (fun hb14 => ?_) (fun hb14 => ?_) ?_
        · refine ap_go kc_68_69 ?_
          refine ap_lload_n rfl ?_; refine ai_lconst 0 rfl ?_
          refine ai_lcge rfl rfl (fun hb15 => ?_) (fun hb15 => ?_) ?_
          · refine ap_go kc_68_90 ?_
            refine ai_iconst ?_; refine ap_iret rfl ?_
            refine sq K ?_; unfold octZ; (repeat' split) <;> omega
          · refine ap_go kc_68_75 ?_
            refine ap_lload_n rfl ?_; refine ap_lload_n rfl ?_; refine ai_lneg ?_
            refine ai_lcge rfl rfl (fun hb16 => ?_) (fun hb16 => ?_) ?_
            · refine ap_go kc_68_87 ?_
              refine ai_bipush (by decide) ?_; refine ap_nil ?_
              refine ap_go kc_68_89 ?_
              refine ap_iret rfl ?_
              refine sq K ?_; unfold octZ; (repeat' split) <;> omega
            · refine ap_go kc_68_82 ?_
              refine ai_bipush (by decide) ?_; refine ap_goto rfl ?_
              refine ap_go kc_68_89 ?_
              refine ap_iret rfl ?_
              refine sq K ?_; unfold octZ; (repeat' split) <;> omega
            all_goals (omega)
          all_goals (omega)
        · refine ap_go kc_68_55 ?_
          refine ap_lload_n rfl ?_; refine ai_lneg ?_; refine ap_lload_n rfl ?_; refine ai_lneg ?_
          refine ai_lcge rfl rfl (fun hb17 => ?_) (fun hb17 => ?_) ?_
          · refine ap_go kc_68_67 ?_
            refine ai_iconst ?_; refine ap_nil ?_
            refine ap_go kc_68_68 ?_
            refine ap_iret rfl ?_
            refine sq K ?_; unfold octZ; (repeat' split) <;> omega
          · refine ap_go kc_68_63 ?_
            refine ai_iconst ?_; refine ap_goto rfl ?_
            refine ap_go kc_68_68 ?_
            refine ap_iret rfl ?_
            refine sq K ?_; unfold octZ; (repeat' split) <;> omega
          all_goals (omega)
        all_goals (omega)
      · refine ap_go kc_68_30 ?_
        refine ap_lload_n rfl ?_; refine ai_lconst 0 rfl ?_
        refine ai_lcle rfl rfl (fun hb18 => ?_) (fun hb18 => ?_) ?_
        · refine ap_go kc_68_49 ?_
          refine ap_lload_n rfl ?_; refine ai_lconst 0 rfl ?_
          refine ai_lcge rfl rfl (fun hb19 => ?_) (fun hb19 => ?_) ?_
          · refine ap_go kc_68_69 ?_
            refine ap_lload_n rfl ?_; refine ai_lconst 0 rfl ?_
            refine ai_lcge rfl rfl (fun hb20 => ?_) (fun hb20 => ?_) ?_
            · refine ap_go kc_68_90 ?_
              refine ai_iconst ?_; refine ap_iret rfl ?_
              refine sq K ?_; unfold octZ; (repeat' split) <;> omega
            · refine ap_go kc_68_75 ?_
              refine ap_lload_n rfl ?_; refine ap_lload_n rfl ?_; refine ai_lneg ?_
              refine ai_lcge rfl rfl (fun hb21 => ?_) (fun hb21 => ?_) ?_
              · refine ap_go kc_68_87 ?_
                refine ai_bipush (by decide) ?_; refine ap_nil ?_
                refine ap_go kc_68_89 ?_
                refine ap_iret rfl ?_
                refine sq K ?_; unfold octZ; (repeat' split) <;> omega
              · refine ap_go kc_68_82 ?_
                refine ai_bipush (by decide) ?_; refine ap_goto rfl ?_
                refine ap_go kc_68_89 ?_
                refine ap_iret rfl ?_
                refine sq K ?_; unfold octZ; (repeat' split) <;> omega
              all_goals (omega)
            all_goals (omega)
          · refine ap_go kc_68_55 ?_
            refine ap_lload_n rfl ?_; refine ai_lneg ?_; refine ap_lload_n rfl ?_; refine ai_lneg ?_
            refine ai_lcge rfl rfl (fun hb22 => ?_) (fun hb22 => ?_) ?_
            · refine ap_go kc_68_67 ?_
              refine ai_iconst ?_; refine ap_nil ?_
              refine ap_go kc_68_68 ?_
              refine ap_iret rfl ?_
              refine sq K ?_; unfold octZ; (repeat' split) <;> omega
            · refine ap_go kc_68_63 ?_
              refine ai_iconst ?_; refine ap_goto rfl ?_
              refine ap_go kc_68_68 ?_
              refine ap_iret rfl ?_
              refine sq K ?_; unfold octZ; (repeat' split) <;> omega
            all_goals (omega)
          all_goals (omega)
        · refine ap_go kc_68_36 ?_
          refine ap_lload_n rfl ?_; refine ai_lneg ?_; refine ap_lload_n rfl ?_
          refine ai_lcge rfl rfl (fun hb23 => ?_) (fun hb23 => ?_) ?_
          · refine ap_go kc_68_47 ?_
            refine ai_iconst ?_; refine ap_nil ?_
            refine ap_go kc_68_48 ?_
            refine ap_iret rfl ?_
            refine sq K ?_; unfold octZ; (repeat' split) <;> omega
          · refine ap_go kc_68_43 ?_
            refine ai_iconst ?_; refine ap_goto rfl ?_
            refine ap_go kc_68_48 ?_
            refine ap_iret rfl ?_
            refine sq K ?_; unfold octZ; (repeat' split) <;> omega
          all_goals (omega)
        all_goals (omega)
      all_goals (omega)
    · refine ap_go kc_68_12 ?_
      refine ap_lload_n rfl ?_; refine ap_lload_n rfl ?_
      refine ai_lcge rfl rfl (fun hb24 => ?_) (fun hb24 => ?_) ?_
      · refine ap_go kc_68_22 ?_
        refine ai_iconst ?_; refine ap_nil ?_
        refine ap_go kc_68_23 ?_
        refine ap_iret rfl ?_
        refine sq K ?_; unfold octZ; (repeat' split) <;> omega
      · refine ap_go kc_68_18 ?_
        refine ai_iconst ?_; refine ap_goto rfl ?_
        refine ap_go kc_68_23 ?_
        refine ap_iret rfl ?_
        refine sq K ?_; unfold octZ; (repeat' split) <;> omega
      all_goals (omega)
    all_goals (omega)
  all_goals (omega)

theorem sp_69 {d L : Nat} {sw : Bool} {f g : Nat → Nat → Int} {Q : Option Value → am_H → Prop} {px py vx vy : Int} (K : Q (some (.long (lZ (sqrZ px py vx vy)))) (53, sh_lt L, iH f, jH g, sh_rt sw)) (h1 : -10000000000 ≤ px * vx + py * vy ∧ px * vx + py * vy ≤ 10000000000) (h2 : 0 ≤ vx * vx + vy * vy ∧ vx * vx + vy * vy ≤ 10000000000) (h3 : 0 ≤ (px * vy - py * vx) * (px * vy - py * vx) ∧ (px * vy - py * vx) * (px * vy - py * vx) < 9223372036854775808) : am_call (d + 1) 69 [.long (lZ px), .long (lZ py), .long (lZ vx), .long (lZ vy)] (53, sh_lt L, iH f, jH g, sh_rt sw) Q := by
  refine ap_call (by decide) (Nat.le_of_ble_eq_true rfl) rfl ?_
  refine ap_go kc_69_0 ?_
  refine ap_lload_n rfl ?_; refine ap_lload rfl ?_; refine ai_lmul ?_; refine ap_lload_n rfl ?_; refine ap_lload rfl ?_; refine ai_lmul ?_; refine ai_ladd ?_; refine ap_lstore rfl ?_; refine ap_lload rfl ?_; refine ap_lload rfl ?_; refine ai_lmul ?_; refine ap_lload rfl ?_; refine ap_lload rfl ?_; refine ai_lmul ?_; refine ai_ladd ?_; refine ap_lstore rfl ?_; refine ap_lload rfl ?_; refine ai_lconst 0 rfl ?_
  refine ai_lcle rfl rfl (fun hb0 => ?_) (fun hb0 => ?_) ?_
  · refine ap_go kc_69_38 ?_
    refine ap_lload_n rfl ?_; refine ap_lload_n rfl ?_; refine ai_lmul ?_; refine ap_lload_n rfl ?_; refine ap_lload_n rfl ?_; refine ai_lmul ?_; refine ai_ladd ?_; refine ap_lret rfl ?_
    refine sql K ?_; unfold sqrZ; (repeat' split) <;> omega
  · refine ap_go kc_69_31 ?_
    refine ap_lload rfl ?_; refine ai_lconst 0 rfl ?_
    refine ai_lcgt rfl rfl (fun hb1 => ?_) (fun hb1 => ?_) ?_
    · refine ap_go kc_69_46 ?_
      refine ap_lload rfl ?_; refine ap_lload rfl ?_
      refine ai_lclt rfl rfl (fun hb2 => ?_) (fun hb2 => ?_) ?_
      · refine ap_go kc_69_74 ?_
        refine ap_lload_n rfl ?_; refine ap_lload rfl ?_; refine ai_lmul ?_; refine ap_lload_n rfl ?_; refine ap_lload rfl ?_; refine ai_lmul ?_; refine ai_lsub ?_; refine ap_lstore rfl ?_; refine ap_lload rfl ?_; refine ap_lload rfl ?_; refine ai_lmul ?_; refine ap_lload rfl ?_; refine ai_ldiv ?_ ?_; refine ap_lret rfl ?_
        · refine sql K ?_; unfold sqrZ; (repeat' split) <;> omega
        all_goals (omega)
      · refine ap_go kc_69_54 ?_
        refine ap_lload_n rfl ?_; refine ap_lload rfl ?_; refine ai_lsub ?_; refine ap_lload_n rfl ?_; refine ap_lload rfl ?_; refine ai_lsub ?_; refine ai_lmul ?_; refine ap_lload_n rfl ?_; refine ap_lload rfl ?_; refine ai_lsub ?_; refine ap_lload_n rfl ?_; refine ap_lload rfl ?_; refine ai_lsub ?_; refine ai_lmul ?_; refine ai_ladd ?_; refine ap_lret rfl ?_
        refine sql K ?_; unfold sqrZ; (repeat' split) <;> omega
      all_goals (omega)
    · refine ap_go kc_69_38 ?_
      refine ap_lload_n rfl ?_; refine ap_lload_n rfl ?_; refine ai_lmul ?_; refine ap_lload_n rfl ?_; refine ap_lload_n rfl ?_; refine ai_lmul ?_; refine ai_ladd ?_; refine ap_lret rfl ?_
      refine sql K ?_; unfold sqrZ; (repeat' split) <;> omega
    all_goals (omega)
  all_goals (omega)
end
section
/-! THE CLASS: steps, headings, names, the simple calls of the face -/
theorem bz {c : Prop} [Decidable c] : ((if c then (1 : Int) else 0) = 0) ↔ ¬ c := by split <;> simp_all
def bAll (p : Nat → Bool) : Nat → Bool
  | 0 => true
  | n + 1 => bAll p n && p n
abbrev dX (f g : Nat → Nat → Int) (s : Nat) : Int := g 2 (f 7 s).toNat - g 2 (f 6 s).toNat
abbrev dY (f g : Nat → Nat → Int) (s : Nat) : Int := g 3 (f 7 s).toNat - g 3 (f 6 s).toNat

theorem sp_19 {d L : Nat} {sw : Bool} {f g : Nat → Nat → Int} {Q : Option Value → am_H → Prop} {s : Int} (K : Q (some (.long (lZ (dX f g s.toNat)))) (53, sh_lt L, iH f, jH g, sh_rt sw)) (hs : 0 ≤ s ∧ s < 121) (h6 : 0 ≤ f 6 s.toNat ∧ f 6 s.toNat < 61) (h7 : 0 ≤ f 7 s.toNat ∧ f 7 s.toNat < 61) : am_call (d + 2) 19 [.ref 0, .int (iZ s)] (53, sh_lt L, iH f, jH g, sh_rt sw) Q := by
  refine ap_call (by decide) (Nat.le_of_ble_eq_true rfl) rfl ?_
  refine ap_go kc_19_0 ?_
  refine ap_aload_n rfl ?_; refine ap_getR ow_19 rf_7_14 rfl rfl rfl ?_; refine ap_aload_n rfl ?_; refine ap_getR ow_19 rf_7_21 rfl rfl rfl ?_; refine ap_iload_n rfl ?_; refine ap_callv0 ow_19 rm_7_108 na_99 mc_99 ms_99 rfl rfl (Nat.le_of_ble_eq_true rfl) (Nat.le_of_ble_eq_true rfl) (Or.inr rfl) (Nat.zero_le _) (Nat.zero_le _) ?_; refine sp_99 ?_ ?_; dsimp only [Option.toList_some, Option.toList_none, List.cons_append, List.nil_append]; refine ap_callv0 ow_19 rm_7_227 na_85 mc_85 ms_85 rfl rfl (Nat.le_of_ble_eq_true rfl) (Nat.le_of_ble_eq_true rfl) (Or.inr rfl) (Nat.zero_le _) (Nat.zero_le _) ?_; refine sp_85 ?_ ?_; dsimp only [Option.toList_some, Option.toList_none, List.cons_append, List.nil_append]; refine ap_aload_n rfl ?_; refine ap_getR ow_19 rf_7_14 rfl rfl rfl ?_; refine ap_aload_n rfl ?_; refine ap_getR ow_19 rf_7_21 rfl rfl rfl ?_; refine ap_iload_n rfl ?_; refine ap_callv0 ow_19 rm_7_104 na_98 mc_98 ms_98 rfl rfl (Nat.le_of_ble_eq_true rfl) (Nat.le_of_ble_eq_true rfl) (Or.inr rfl) (Nat.zero_le _) (Nat.zero_le _) ?_; refine sp_98 ?_ ?_; dsimp only [Option.toList_some, Option.toList_none, List.cons_append, List.nil_append]; refine ap_callv0 ow_19 rm_7_227 na_85 mc_85 ms_85 rfl rfl (Nat.le_of_ble_eq_true rfl) (Nat.le_of_ble_eq_true rfl) (Or.inr rfl) (Nat.zero_le _) (Nat.zero_le _) ?_; refine sp_85 ?_ ?_; dsimp only [Option.toList_some, Option.toList_none, List.cons_append, List.nil_append]; refine ai_lsub ?_; refine ap_lret rfl ?_
  · exact K
  all_goals (omega)

theorem sp_20 {d L : Nat} {sw : Bool} {f g : Nat → Nat → Int} {Q : Option Value → am_H → Prop} {s : Int} (K : Q (some (.long (lZ (dY f g s.toNat)))) (53, sh_lt L, iH f, jH g, sh_rt sw)) (hs : 0 ≤ s ∧ s < 121) (h6 : 0 ≤ f 6 s.toNat ∧ f 6 s.toNat < 61) (h7 : 0 ≤ f 7 s.toNat ∧ f 7 s.toNat < 61) : am_call (d + 2) 20 [.ref 0, .int (iZ s)] (53, sh_lt L, iH f, jH g, sh_rt sw) Q := by
  refine ap_call (by decide) (Nat.le_of_ble_eq_true rfl) rfl ?_
  refine ap_go kc_20_0 ?_
  refine ap_aload_n rfl ?_; refine ap_getR ow_20 rf_7_14 rfl rfl rfl ?_; refine ap_aload_n rfl ?_; refine ap_getR ow_20 rf_7_21 rfl rfl rfl ?_; refine ap_iload_n rfl ?_; refine ap_callv0 ow_20 rm_7_108 na_99 mc_99 ms_99 rfl rfl (Nat.le_of_ble_eq_true rfl) (Nat.le_of_ble_eq_true rfl) (Or.inr rfl) (Nat.zero_le _) (Nat.zero_le _) ?_; refine sp_99 ?_ ?_; dsimp only [Option.toList_some, Option.toList_none, List.cons_append, List.nil_append]; refine ap_callv0 ow_20 rm_7_231 na_86 mc_86 ms_86 rfl rfl (Nat.le_of_ble_eq_true rfl) (Nat.le_of_ble_eq_true rfl) (Or.inr rfl) (Nat.zero_le _) (Nat.zero_le _) ?_; refine sp_86 ?_ ?_; dsimp only [Option.toList_some, Option.toList_none, List.cons_append, List.nil_append]; refine ap_aload_n rfl ?_; refine ap_getR ow_20 rf_7_14 rfl rfl rfl ?_; refine ap_aload_n rfl ?_; refine ap_getR ow_20 rf_7_21 rfl rfl rfl ?_; refine ap_iload_n rfl ?_; refine ap_callv0 ow_20 rm_7_104 na_98 mc_98 ms_98 rfl rfl (Nat.le_of_ble_eq_true rfl) (Nat.le_of_ble_eq_true rfl) (Or.inr rfl) (Nat.zero_le _) (Nat.zero_le _) ?_; refine sp_98 ?_ ?_; dsimp only [Option.toList_some, Option.toList_none, List.cons_append, List.nil_append]; refine ap_callv0 ow_20 rm_7_231 na_86 mc_86 ms_86 rfl rfl (Nat.le_of_ble_eq_true rfl) (Nat.le_of_ble_eq_true rfl) (Or.inr rfl) (Nat.zero_le _) (Nat.zero_le _) ?_; refine sp_86 ?_ ?_; dsimp only [Option.toList_some, Option.toList_none, List.cons_append, List.nil_append]; refine ai_lsub ?_; refine ap_lret rfl ?_
  · exact K
  all_goals (omega)

theorem sp_21 {d L : Nat} {sw : Bool} {f g : Nat → Nat → Int} {Q : Option Value → am_H → Prop} {s t : Int} (K : Q (some (.int (iZ (advZ (dX f g s.toNat * dY f g t.toNat - dY f g s.toNat * dX f g t.toNat) (dX f g s.toNat * dX f g t.toNat + dY f g s.toNat * dY f g t.toNat))))) (53, sh_lt L, iH f, jH g, sh_rt sw)) (hs : 0 ≤ s ∧ s < 121) (h6 : 0 ≤ f 6 s.toNat ∧ f 6 s.toNat < 61) (h7 : 0 ≤ f 7 s.toNat ∧ f 7 s.toNat < 61) (ht : 0 ≤ t ∧ t < 121) (g6 : 0 ≤ f 6 t.toNat ∧ f 6 t.toNat < 61) (g7 : 0 ≤ f 7 t.toNat ∧ f 7 t.toNat < 61) (h1 : -2000000000 ≤ dX f g s.toNat * dY f g t.toNat - dY f g s.toNat * dX f g t.toNat ∧ dX f g s.toNat * dY f g t.toNat - dY f g s.toNat * dX f g t.toNat ≤ 2000000000) (h2 : -2000000000 ≤ dX f g s.toNat * dX f g t.toNat + dY f g s.toNat * dY f g t.toNat ∧ dX f g s.toNat * dX f g t.toNat + dY f g s.toNat * dY f g t.toNat ≤ 2000000000) : am_call (d + 3) 21 [.ref 0, .int (iZ s), .int (iZ t)] (53, sh_lt L, iH f, jH g, sh_rt sw) Q := by
  refine ap_call (by decide) (Nat.le_of_ble_eq_true rfl) rfl ?_
  refine ap_go kc_21_0 ?_
  refine ap_aload_n rfl ?_; refine ap_iload_n rfl ?_; refine ap_callv0 ow_21 rm_7_234 na_19 mc_19 ms_19 rfl rfl (Nat.le_of_ble_eq_true rfl) (Nat.le_of_ble_eq_true rfl) (Or.inr rfl) (Nat.zero_le _) (Nat.zero_le _) ?_; refine sp_19 ?_ ?_ ?_ ?_; dsimp only [Option.toList_some, Option.toList_none, List.cons_append, List.nil_append]; refine ap_aload_n rfl ?_; refine ap_iload_n rfl ?_; refine ap_callv0 ow_21 rm_7_237 na_20 mc_20 ms_20 rfl rfl (Nat.le_of_ble_eq_true rfl) (Nat.le_of_ble_eq_true rfl) (Or.inr rfl) (Nat.zero_le _) (Nat.zero_le _) ?_; refine sp_20 ?_ ?_ ?_ ?_; dsimp only [Option.toList_some, Option.toList_none, List.cons_append, List.nil_append]; refine ap_aload_n rfl ?_; refine ap_iload_n rfl ?_; refine ap_callv0 ow_21 rm_7_234 na_19 mc_19 ms_19 rfl rfl (Nat.le_of_ble_eq_true rfl) (Nat.le_of_ble_eq_true rfl) (Or.inr rfl) (Nat.zero_le _) (Nat.zero_le _) ?_; refine sp_19 ?_ ?_ ?_ ?_; dsimp only [Option.toList_some, Option.toList_none, List.cons_append, List.nil_append]; refine ap_aload_n rfl ?_; refine ap_iload_n rfl ?_; refine ap_callv0 ow_21 rm_7_237 na_20 mc_20 ms_20 rfl rfl (Nat.le_of_ble_eq_true rfl) (Nat.le_of_ble_eq_true rfl) (Or.inr rfl) (Nat.zero_le _) (Nat.zero_le _) ?_; refine sp_20 ?_ ?_ ?_ ?_; dsimp only [Option.toList_some, Option.toList_none, List.cons_append, List.nil_append]; refine ap_calls0 ow_21 rm_7_240 na_67 mc_67 ms_67 rfl rfl (Nat.le_of_ble_eq_true rfl) (Nat.le_of_ble_eq_true rfl) rfl (Nat.zero_le _) (Nat.zero_le _) ?_; refine sp_67 ?_ ?_ ?_; dsimp only [Option.toList_some, Option.toList_none, List.cons_append, List.nil_append]; refine ap_iret rfl ?_
  · exact K
  all_goals (first | assumption | omega)

theorem oct_in (x y : Int) : -1 ≤ octZ x y ∧ octZ x y ≤ 7 := by
  unfold octZ
  (repeat' split) <;> omega
def fitB (o h : Int) : Bool := decide (h < 0) || (decide (0 ≤ o) && (decide ((o - h) % 8 ≤ 1) || decide ((o - h) % 8 = 7)))
theorem b_7 {a b : Int} (ha : 0 ≤ a ∧ a < 8) (hb : 0 ≤ b ∧ b < 8) : b_and (a - b) 7 = (a - b) % 8 := by
  have := b_and7 a.toNat (by omega) b.toNat (by omega)
  rw [show ((a.toNat : Nat) : Int) = a by omega, show ((b.toNat : Nat) : Int) = b by omega] at this
  exact this

theorem sp_22 {d L : Nat} {sw : Bool} {f g : Nat → Nat → Int} {Q : Option Value → am_H → Prop} {s h : Int} (K : Q (some (.int (iZ (if fitB (octZ (dX f g s.toNat) (dY f g s.toNat)) h = true then 1 else 0)))) (53, sh_lt L, iH f, jH g, sh_rt sw)) (hs : 0 ≤ s ∧ s < 121) (h6 : 0 ≤ f 6 s.toNat ∧ f 6 s.toNat < 61) (h7 : 0 ≤ f 7 s.toNat ∧ f 7 s.toNat < 61) (hx : -100000 ≤ dX f g s.toNat ∧ dX f g s.toNat ≤ 100000) (hy : -100000 ≤ dY f g s.toNat ∧ dY f g s.toNat ≤ 100000) (hh : -1 ≤ h ∧ h ≤ 7) : am_call (d + 3) 22 [.ref 0, .int (iZ s), .int (iZ h)] (53, sh_lt L, iH f, jH g, sh_rt sw) Q := by
  have ho := oct_in (dX f g s.toNat) (dY f g s.toNat)
  refine ap_call (by decide) (Nat.le_of_ble_eq_true rfl) rfl ?_
  refine ap_go kc_22_0 ?_
  refine ap_iload_n rfl ?_
  refine ai_ifge rfl rfl (fun hb0 => ?_) (fun hb0 => ?_) ?_
  · refine ap_go kc_22_6 ?_
    refine ap_aload_n rfl ?_; refine ap_iload_n rfl ?_; refine ap_callv0 ow_22 rm_7_234 na_19 mc_19 ms_19 rfl rfl (Nat.le_of_ble_eq_true rfl) (Nat.le_of_ble_eq_true rfl) (Or.inr rfl) (Nat.zero_le _) (Nat.zero_le _) ?_; refine sp_19 ?_ ?_ ?_ ?_; dsimp only [Option.toList_some, Option.toList_none, List.cons_append, List.nil_append]; refine ap_aload_n rfl ?_; refine ap_iload_n rfl ?_; refine ap_callv0 ow_22 rm_7_237 na_20 mc_20 ms_20 rfl rfl (Nat.le_of_ble_eq_true rfl) (Nat.le_of_ble_eq_true rfl) (Or.inr rfl) (Nat.zero_le _) (Nat.zero_le _) ?_; refine sp_20 ?_ ?_ ?_ ?_; dsimp only [Option.toList_some, Option.toList_none, List.cons_append, List.nil_append]; refine ap_calls0 ow_22 rm_7_246 na_68 mc_68 ms_68 rfl rfl (Nat.le_of_ble_eq_true rfl) (Nat.le_of_ble_eq_true rfl) rfl (Nat.zero_le _) (Nat.zero_le _) ?_; refine sp_68 ?_ ?_ ?_; dsimp only [Option.toList_some, Option.toList_none, List.cons_append, List.nil_append]; refine ap_istore_n rfl ?_; refine ap_iload_n rfl ?_
    refine ai_ifge rfl rfl (fun hb1 => ?_) (fun hb1 => ?_) ?_
    · refine ap_go kc_22_26 ?_
      refine ap_iload_n rfl ?_; refine ap_iload_n rfl ?_; refine ai_isub ?_; refine ai_bipush (by decide) ?_; refine ai_iand ?_; refine ap_istore rfl ?_; refine ap_iload rfl ?_; refine ai_iconst ?_
      refine ai_icle rfl rfl (fun hb2 => ?_) (fun hb2 => ?_) ?_
      · refine ap_go kc_22_47 ?_
        refine ai_iconst ?_; refine ap_goto rfl ?_
        refine ap_go kc_22_52 ?_
        refine ai_zret rfl ?_ ?_
        · (try rw [b_7 (by omega) (by omega)] at hb2); (try rw [b_7 (by omega) (by omega)] at hb3); refine sq K ?_; unfold fitB; simp only [Bool.or_eq_true, Bool.and_eq_true, decide_eq_true_eq]; split <;> omega
        all_goals (first | omega | assumption | exact ⟨iR_T _, by decide, by decide⟩)
      · refine ap_go kc_22_40 ?_
        refine ap_iload rfl ?_; refine ai_bipush (by decide) ?_
        refine ai_icne rfl rfl (fun hb3 => ?_) (fun hb3 => ?_) ?_
        · refine ap_go kc_22_51 ?_
          refine ai_iconst ?_; refine ap_nil ?_
          refine ap_go kc_22_52 ?_
          refine ai_zret rfl ?_ ?_
          · (try rw [b_7 (by omega) (by omega)] at hb2); (try rw [b_7 (by omega) (by omega)] at hb3); refine sq K ?_; unfold fitB; simp only [Bool.or_eq_true, Bool.and_eq_true, decide_eq_true_eq]; split <;> omega
          all_goals (first | omega | assumption | exact ⟨iR_T _, by decide, by decide⟩)
        · refine ap_go kc_22_47 ?_
          refine ai_iconst ?_; refine ap_goto rfl ?_
          refine ap_go kc_22_52 ?_
          refine ai_zret rfl ?_ ?_
          · (try rw [b_7 (by omega) (by omega)] at hb2); (try rw [b_7 (by omega) (by omega)] at hb3); refine sq K ?_; unfold fitB; simp only [Bool.or_eq_true, Bool.and_eq_true, decide_eq_true_eq]; split <;> omega
          all_goals (first | omega | assumption | exact ⟨iR_T _, by decide, by decide⟩)
        all_goals (first | omega | assumption | exact ⟨iR_T _, by decide, by decide⟩)
      all_goals (first | omega | assumption | exact ⟨iR_T _, by decide, by decide⟩)
    · refine ap_go kc_22_24 ?_
      refine ai_iconst ?_; refine ai_zret rfl ?_ ?_
      · (try rw [b_7 (by omega) (by omega)] at hb2); (try rw [b_7 (by omega) (by omega)] at hb3); refine sq K ?_; unfold fitB; simp only [Bool.or_eq_true, Bool.and_eq_true, decide_eq_true_eq]; split <;> omega
      all_goals (first | omega | assumption | exact ⟨iR_T _, by decide, by decide⟩)
    all_goals (first | omega | assumption | exact ⟨iR_T _, by decide, by decide⟩)
  · refine ap_go kc_22_4 ?_
    refine ai_iconst ?_; refine ai_zret rfl ?_ ?_
    · (try rw [b_7 (by omega) (by omega)] at hb2); (try rw [b_7 (by omega) (by omega)] at hb3); refine sq K ?_; unfold fitB; simp only [Bool.or_eq_true, Bool.and_eq_true, decide_eq_true_eq]; split <;> omega
    all_goals (first | omega | assumption | exact ⟨iR_T _, by decide, by decide⟩)
  all_goals (first | omega | assumption | exact ⟨iR_T _, by decide, by decide⟩)

theorem sp_23 {d L : Nat} {sw : Bool} {f g : Nat → Nat → Int} {Q : Option Value → am_H → Prop} {s x y : Int} (K : Q (some (.long (lZ (sqrZ (x - g 2 (f 6 s.toNat).toNat) (y - g 3 (f 6 s.toNat).toNat) (dX f g s.toNat) (dY f g s.toNat))))) (53, sh_lt L, iH f, jH g, sh_rt sw)) (hs : 0 ≤ s ∧ s < 121) (h6 : 0 ≤ f 6 s.toNat ∧ f 6 s.toNat < 61) (h7 : 0 ≤ f 7 s.toNat ∧ f 7 s.toNat < 61) (h1 : -10000000000 ≤ ((x - g 2 (f 6 s.toNat).toNat) * dX f g s.toNat + (y - g 3 (f 6 s.toNat).toNat) * dY f g s.toNat) ∧ ((x - g 2 (f 6 s.toNat).toNat) * dX f g s.toNat + (y - g 3 (f 6 s.toNat).toNat) * dY f g s.toNat) ≤ 10000000000) (h2 : 0 ≤ (dX f g s.toNat * dX f g s.toNat + dY f g s.toNat * dY f g s.toNat) ∧ (dX f g s.toNat * dX f g s.toNat + dY f g s.toNat * dY f g s.toNat) ≤ 10000000000) (h3 : 0 ≤ ((x - g 2 (f 6 s.toNat).toNat) * dY f g s.toNat - (y - g 3 (f 6 s.toNat).toNat) * dX f g s.toNat) * ((x - g 2 (f 6 s.toNat).toNat) * dY f g s.toNat - (y - g 3 (f 6 s.toNat).toNat) * dX f g s.toNat) ∧ ((x - g 2 (f 6 s.toNat).toNat) * dY f g s.toNat - (y - g 3 (f 6 s.toNat).toNat) * dX f g s.toNat) * ((x - g 2 (f 6 s.toNat).toNat) * dY f g s.toNat - (y - g 3 (f 6 s.toNat).toNat) * dX f g s.toNat) < 9223372036854775808) : am_call (d + 3) 23 [.ref 0, .int (iZ s), .long (lZ x), .long (lZ y)] (53, sh_lt L, iH f, jH g, sh_rt sw) Q := by
  refine ap_call (by decide) (Nat.le_of_ble_eq_true rfl) rfl ?_
  refine ap_go kc_23_0 ?_
  refine ap_aload_n rfl ?_; refine ap_getR ow_23 rf_7_21 rfl rfl rfl ?_; refine ap_iload_n rfl ?_; refine ap_callv0 ow_23 rm_7_104 na_98 mc_98 ms_98 rfl rfl (Nat.le_of_ble_eq_true rfl) (Nat.le_of_ble_eq_true rfl) (Or.inr rfl) (Nat.zero_le _) (Nat.zero_le _) ?_; refine sp_98 ?_ ?_; dsimp only [Option.toList_some, Option.toList_none, List.cons_append, List.nil_append]; refine ap_istore rfl ?_; refine ap_lload_n rfl ?_; refine ap_aload_n rfl ?_; refine ap_getR ow_23 rf_7_14 rfl rfl rfl ?_; refine ap_iload rfl ?_; refine ap_callv0 ow_23 rm_7_227 na_85 mc_85 ms_85 rfl rfl (Nat.le_of_ble_eq_true rfl) (Nat.le_of_ble_eq_true rfl) (Or.inr rfl) (Nat.zero_le _) (Nat.zero_le _) ?_; refine sp_85 ?_ ?_; dsimp only [Option.toList_some, Option.toList_none, List.cons_append, List.nil_append]; refine ai_lsub ?_; refine ap_lload rfl ?_; refine ap_aload_n rfl ?_; refine ap_getR ow_23 rf_7_14 rfl rfl rfl ?_; refine ap_iload rfl ?_; refine ap_callv0 ow_23 rm_7_231 na_86 mc_86 ms_86 rfl rfl (Nat.le_of_ble_eq_true rfl) (Nat.le_of_ble_eq_true rfl) (Or.inr rfl) (Nat.zero_le _) (Nat.zero_le _) ?_; refine sp_86 ?_ ?_; dsimp only [Option.toList_some, Option.toList_none, List.cons_append, List.nil_append]; refine ai_lsub ?_; refine ap_aload_n rfl ?_; refine ap_iload_n rfl ?_; refine ap_callv0 ow_23 rm_7_234 na_19 mc_19 ms_19 rfl rfl (Nat.le_of_ble_eq_true rfl) (Nat.le_of_ble_eq_true rfl) (Or.inr rfl) (Nat.zero_le _) (Nat.zero_le _) ?_; refine sp_19 ?_ ?_ ?_ ?_; dsimp only [Option.toList_some, Option.toList_none, List.cons_append, List.nil_append]; refine ap_aload_n rfl ?_; refine ap_iload_n rfl ?_; refine ap_callv0 ow_23 rm_7_237 na_20 mc_20 ms_20 rfl rfl (Nat.le_of_ble_eq_true rfl) (Nat.le_of_ble_eq_true rfl) (Or.inr rfl) (Nat.zero_le _) (Nat.zero_le _) ?_; refine sp_20 ?_ ?_ ?_ ?_; dsimp only [Option.toList_some, Option.toList_none, List.cons_append, List.nil_append]; refine ap_calls0 ow_23 rm_7_249 na_69 mc_69 ms_69 rfl rfl (Nat.le_of_ble_eq_true rfl) (Nat.le_of_ble_eq_true rfl) rfl (Nat.zero_le _) (Nat.zero_le _) ?_; refine sp_69 ?_ ?_ ?_ ?_; dsimp only [Option.toList_some, Option.toList_none, List.cons_append, List.nil_append]; refine ap_lret rfl ?_
  · exact K
  all_goals (first | assumption | omega)

abbrev begB (f : Nat → Nat → Int) (n : Int) : Bool := bAll (fun i => decide (f 25 i = letZ n i)) (f 24 1).toNat
theorem bAll_f {p : Nat → Bool} {k : Nat} (h : p k = false) : ∀ n, k < n → bAll p n = false
  | 0, q => absurd q (by omega)
  | n + 1, q => by
    by_cases e : k = n
    · subst e; simp [bAll, h]
    · simp [bAll, bAll_f h n (by omega)]
theorem let_in {n i : Int} (h : 0 ≤ n ∧ n < 2147483648) : iR (letZ n i) := by
  unfold letZ
  repeat' split
  all_goals omega
theorem lp_78 {d L : Nat} {sw : Bool} {f g : Nat → Nat → Int} {Q : Option Value → am_H → Prop} {n : Int} (hs : 0 ≤ f 24 1 ∧ f 24 1 ≤ 3) (hn : 0 ≤ n ∧ n < 2147483648) (hv : ∀ k, iR (f 25 k)) (K : Q (some (.int (iZ (if begB f n = true then 1 else 0)))) (53, sh_lt L, iH f, jH g, sh_rt sw)) : ∀ (m k : Nat) (i : Int), (f 24 1).toNat = k + m → bAll (fun i => decide (f 25 i = letZ n i)) k = true → i = k → am_Wp (am_call (d + 1)) 78 Q 2 [some (.ref 24), some (.int (iZ n)), some (.int (iZ i))] [] (53, sh_lt L, iH f, jH g, sh_rt sw) (0, 0) := by
  intro m
  induction m with
  | zero =>
    intro k i hk hb ei
    refine ap_go kc_78_2 ?_
    refine ap_iload_n rfl ?_; refine ap_aload_n rfl ?_; refine ai_getI ow_78 rf_2_13 rfl rfl ?_
    refine ai_icge rfl rfl (fun hc0 => ?_) (fun hc0 => ?_) ?_
    · refine ap_go kc_78_32 ?_
      refine ai_iconst ?_; refine ai_zret rfl ?_ ?_
      · rw [if_pos (by unfold begB; rw [hk]; exact hb)] at K; exact K
      all_goals (omega)
    · exfalso; omega
    all_goals (omega)
  | succ m ih =>
    intro k i hk hb ei
    have e1 : i.toNat = k := by omega
    refine ap_go kc_78_2 ?_
    refine ap_iload_n rfl ?_; refine ap_aload_n rfl ?_; refine ai_getI ow_78 rf_2_13 rfl rfl ?_
    refine ai_icge rfl rfl (fun hc0 => ?_) (fun hc0 => ?_) ?_
    · exfalso; omega
    · refine ap_go kc_78_10 ?_
      refine ap_aload_n rfl ?_; refine ap_getR ow_78 rf_2_9 rfl rfl rfl ?_; refine ap_iload_n rfl ?_; refine ai_iaload (n := 3) rfl rfl (by decide) ?_ ?_; refine ap_iload_n rfl ?_; refine ap_iload_n rfl ?_; refine ap_calls0 ow_78 rm_2_21 na_79 mc_79 ms_79 rfl rfl (Nat.le_of_ble_eq_true rfl) (Nat.le_of_ble_eq_true rfl) rfl (Nat.zero_le _) (Nat.zero_le _) ?_; refine sp_79 ?_ ?_ ?_; dsimp only [Option.toList_some, Option.toList_none, List.cons_append, List.nil_append]
      refine ai_iceq rfl rfl (fun hc1 => ?_) (fun hc1 => ?_) ?_
      · refine ap_go kc_78_26 ?_
        refine ai_iinc rfl rfl ?_; refine ap_goto rfl ?_
        exact ih (k + 1) _ (by omega) (by rw [e1, ei] at hc1; simp [bAll, hb, hc1]) (by omega)
      · refine ap_go kc_78_24 ?_
        refine ai_iconst ?_; refine ai_zret rfl ?_ ?_
        · rw [if_neg (by unfold begB; rw [bAll_f (k := k) (by rw [e1, ei] at hc1; exact decide_eq_false hc1) _ (by omega)]; decide)] at K; exact K
        all_goals (first | omega | exact ⟨hv _, let_in hn⟩)
      all_goals (first | omega | exact ⟨hv _, let_in hn⟩)
    all_goals (first | omega | exact ⟨hv _, let_in hn⟩)
theorem sp_78 {d L : Nat} {sw : Bool} {f g : Nat → Nat → Int} {Q : Option Value → am_H → Prop} {n : Int} (K : Q (some (.int (iZ (if begB f n = true then 1 else 0)))) (53, sh_lt L, iH f, jH g, sh_rt sw)) (hs : 0 ≤ f 24 1 ∧ f 24 1 ≤ 3) (hn : 0 ≤ n ∧ n < 2147483648) (hv : ∀ k, iR (f 25 k)) : am_call (d + 2) 78 [.ref 24, .int (iZ n)] (53, sh_lt L, iH f, jH g, sh_rt sw) Q := by
  refine ap_call (by decide) (Nat.le_of_ble_eq_true rfl) rfl ?_
  refine ap_go kc_78_0 ?_
  refine ai_iconst ?_; refine ap_istore_n rfl ?_; refine ap_nil ?_
  exact lp_78 hs hn hv K (f 24 1).toNat 0 0 (by omega) rfl rfl
theorem lp_77 {d L : Nat} {sw : Bool} {f g : Nat → Nat → Int} {Q : Option Value → am_H → Prop} {N : Int} (hs : 0 ≤ f 24 1 ∧ f 24 1 ≤ 3) (hN : 0 ≤ N ∧ N ≤ 60) (hv : ∀ k, iR (f 25 k)) (K : Q (some (.int (iZ (cZ (fun n => begB f n) N.toNat)))) (53, sh_lt L, iH f, jH g, sh_rt sw)) : ∀ (m k : Nat) (c i : Int), N.toNat = k + m → c = cZ (fun n => begB f n) k → i = k + 1 → am_Wp (am_call (d + 2)) 77 Q 4 [some (.ref 24), some (.int (iZ N)), some (.int (iZ c)), some (.int (iZ i))] [] (53, sh_lt L, iH f, jH g, sh_rt sw) (0, 0) := by
  intro m
  induction m with
  | zero =>
    intro k c i hk ec ei
    have hb := cZ_in (fun n => begB f n) k
    refine ap_go kc_77_4 ?_
    refine ap_iload_n rfl ?_; refine ap_iload_n rfl ?_
    refine ai_icgt rfl rfl (fun hc0 => ?_) (fun hc0 => ?_) ?_
    · refine ap_go kc_77_26 ?_
      refine ap_iload_n rfl ?_; refine ap_iret rfl ?_
      rw [hk] at K; rw [ec]; exact K
    · exfalso; omega
    all_goals (omega)
  | succ m ih =>
    intro k c i hk ec ei
    have hb := cZ_in (fun n => begB f n) k
    have ei' : i = ((k + 1 : Nat) : Int) := by omega
    refine ap_go kc_77_4 ?_
    refine ap_iload_n rfl ?_; refine ap_iload_n rfl ?_
    refine ai_icgt rfl rfl (fun hc0 => ?_) (fun hc0 => ?_) ?_
    · exfalso; omega
    · refine ap_go kc_77_9 ?_
      refine ap_aload_n rfl ?_; refine ap_iload_n rfl ?_; refine ap_callv0 ow_77 rm_2_17 na_78 mc_78 ms_78 rfl rfl (Nat.le_of_ble_eq_true rfl) (Nat.le_of_ble_eq_true rfl) (Or.inr rfl) (Nat.zero_le _) (Nat.zero_le _) ?_; refine sp_78 ?_ ?_ ?_ ?_; dsimp only [Option.toList_some, Option.toList_none, List.cons_append, List.nil_append]
      refine ai_ifeq rfl rfl (fun hc1 => ?_) (fun hc1 => ?_) ?_
      · refine ap_go kc_77_20 ?_
        refine ai_iinc rfl rfl ?_; refine ap_goto rfl ?_
        exact ih (k + 1) _ _ (by omega) (by rw [ei'] at hc1; simp only [cZ]; split at hc1 <;> split <;> first | omega | contradiction) (by omega)
      · refine ap_go kc_77_17 ?_
        refine ai_iinc rfl rfl ?_; refine ap_nil ?_
        refine ap_go kc_77_20 ?_
        refine ai_iinc rfl rfl ?_; refine ap_goto rfl ?_
        exact ih (k + 1) _ _ (by omega) (by rw [ei'] at hc1; simp only [cZ]; split at hc1 <;> split <;> first | omega | contradiction) (by omega)
      all_goals (first | omega | exact hv | (split <;> omega))
    all_goals (first | omega | exact hv | (split <;> omega))
theorem sp_77 {d L : Nat} {sw : Bool} {f g : Nat → Nat → Int} {Q : Option Value → am_H → Prop} {N : Int} (K : Q (some (.int (iZ (cZ (fun n => begB f n) N.toNat)))) (53, sh_lt L, iH f, jH g, sh_rt sw)) (hs : 0 ≤ f 24 1 ∧ f 24 1 ≤ 3) (hN : 0 ≤ N ∧ N ≤ 60) (hv : ∀ k, iR (f 25 k)) : am_call (d + 3) 77 [.ref 24, .int (iZ N)] (53, sh_lt L, iH f, jH g, sh_rt sw) Q := by
  refine ap_call (by decide) (Nat.le_of_ble_eq_true rfl) rfl ?_
  refine ap_go kc_77_0 ?_
  refine ai_iconst ?_; refine ap_istore_n rfl ?_; refine ai_iconst ?_; refine ap_istore_n rfl ?_; refine ap_nil ?_
  exact lp_77 hs hN hv K N.toNat 0 0 1 (by omega) rfl rfl

theorem sp_1 {d L : Nat} {sw : Bool} {f g : Nat → Nat → Int} {Q : Option Value → am_H → Prop} {x y : Int} (K1 : ¬ (-10000 ≤ x ∧ x ≤ 10000 ∧ -10000 ≤ y ∧ y ≤ 10000) → Q (some (.int (iZ (-2)))) (53, sh_lt L, iH f, jH g, sh_rt sw)) (K2 : (-10000 ≤ x ∧ x ≤ 10000 ∧ -10000 ≤ y ∧ y ≤ 10000) ∧ f 1 3 = 60 → Q (some (.int (iZ (-4)))) (53, sh_lt L, iH f, jH g, sh_rt sw)) (K3 : (-10000 ≤ x ∧ x ≤ 10000 ∧ -10000 ≤ y ∧ y ≤ 10000) ∧ f 1 3 < 60 → Q (some (.int (iZ (f 1 3 + 1)))) (53, sh_lt L, iH (am_up f 1 3 (f 1 3 + 1)), jH (am_up (am_up g 2 (f 1 3 + 1).toNat x) 3 (f 1 3 + 1).toNat y), sh_rt sw)) (hx : lR x) (hy : lR y) (hc : 0 ≤ f 1 3 ∧ f 1 3 ≤ 60) : am_call (d + 2) 1 [.ref 0, .long (lZ x), .long (lZ y)] (53, sh_lt L, iH f, jH g, sh_rt sw) Q := by
  refine ap_call (by decide) (Nat.le_of_ble_eq_true rfl) rfl ?_
  refine ap_go kc_1_0 ?_
  refine ap_lload_n rfl ?_; refine ai_ldc2 (10000) ow_1 kl_7_70 rfl ?_; refine ap_calls0 ow_1 rm_7_72 na_15 mc_15 ms_15 rfl rfl (Nat.le_of_ble_eq_true rfl) (Nat.le_of_ble_eq_true rfl) rfl (Nat.zero_le _) (Nat.zero_le _) ?_; refine sp_15 ?_ ?_ ?_; dsimp only [Option.toList_some, Option.toList_none, List.cons_append, List.nil_append]
  refine ai_ifeq rfl rfl (fun hb0 => ?_) (fun hb0 => ?_) ?_
  · refine ap_go kc_1_20 ?_
    refine ai_bipush (by decide) ?_; refine ap_iret rfl ?_
    (try simp only [bz, Decidable.not_not] at *); first | exact K1  (by omega) | exact K2  (by omega) | exact K3  (by omega)
  · refine ap_go kc_1_10 ?_
    refine ap_lload_n rfl ?_; refine ai_ldc2 (10000) ow_1 kl_7_70 rfl ?_; refine ap_calls0 ow_1 rm_7_72 na_15 mc_15 ms_15 rfl rfl (Nat.le_of_ble_eq_true rfl) (Nat.le_of_ble_eq_true rfl) rfl (Nat.zero_le _) (Nat.zero_le _) ?_; refine sp_15 ?_ ?_ ?_; dsimp only [Option.toList_some, Option.toList_none, List.cons_append, List.nil_append]
    refine ai_ifne rfl rfl (fun hb1 => ?_) (fun hb1 => ?_) ?_
    · refine ap_go kc_1_23 ?_
      refine ap_aload_n rfl ?_; refine ap_getR ow_1 rf_7_14 rfl rfl rfl ?_; refine ap_callv0 ow_1 rm_7_76 na_83 mc_83 ms_83 rfl rfl (Nat.le_of_ble_eq_true rfl) (Nat.le_of_ble_eq_true rfl) (Or.inr rfl) (Nat.zero_le _) (Nat.zero_le _) ?_; refine sp_83 ?_ ?_; dsimp only [Option.toList_some, Option.toList_none, List.cons_append, List.nil_append]
      refine ai_ifeq rfl rfl (fun hb2 => ?_) (fun hb2 => ?_) ?_
      · refine ap_go kc_1_36 ?_
        refine ap_aload_n rfl ?_; refine ap_getR ow_1 rf_7_14 rfl rfl rfl ?_; refine ap_lload_n rfl ?_; refine ap_lload_n rfl ?_; refine ap_callv0 ow_1 rm_7_80 na_84 mc_84 ms_84 rfl rfl (Nat.le_of_ble_eq_true rfl) (Nat.le_of_ble_eq_true rfl) (Or.inr rfl) (Nat.zero_le _) (Nat.zero_le _) ?_; refine sp_84 ?_ ?_; dsimp only [Option.toList_some, Option.toList_none, List.cons_append, List.nil_append]; refine ap_iret rfl ?_
        · (try simp only [bz, Decidable.not_not] at *); first | exact K1  (by omega) | exact K2  (by omega) | exact K3  (by omega)
        all_goals (first | omega | (split <;> omega) | (simp only [bz, Decidable.not_not] at *; omega))
      · refine ap_go kc_1_33 ?_
        refine ai_bipush (by decide) ?_; refine ap_iret rfl ?_
        (try simp only [bz, Decidable.not_not] at *); first | exact K1  (by omega) | exact K2  (by omega) | exact K3  (by omega)
      all_goals (first | omega | (split <;> omega) | (simp only [bz, Decidable.not_not] at *; omega))
    · refine ap_go kc_1_20 ?_
      refine ai_bipush (by decide) ?_; refine ap_iret rfl ?_
      (try simp only [bz, Decidable.not_not] at *); first | exact K1  (by omega) | exact K2  (by omega) | exact K3  (by omega)
    all_goals (first | omega | (split <;> omega) | (simp only [bz, Decidable.not_not] at *; omega))
  all_goals (first | omega | (split <;> omega) | (simp only [bz, Decidable.not_not] at *; omega))

theorem sp_4 {d L : Nat} {sw : Bool} {f g : Nat → Nat → Int} {Q : Option Value → am_H → Prop} {n p : Int} (K1 : ¬ (1 ≤ n ∧ n ≤ f 1 3) → Q (some (.int (iZ (-1)))) (53, sh_lt L, iH f, jH g, sh_rt sw)) (K2 : (1 ≤ n ∧ n ≤ f 1 3) ∧ ¬ (0 ≤ p ∧ p ≤ 1000000) → Q (some (.int (iZ (-2)))) (53, sh_lt L, iH f, jH g, sh_rt sw)) (K3 : (1 ≤ n ∧ n ≤ f 1 3) ∧ (0 ≤ p ∧ p ≤ 1000000) → Q (some (.int (iZ (cZ (fun k => decide (0 < am_up g 4 n.toNat p 4 k)) (f 1 3).toNat)))) (53, sh_lt L, iH f, jH (am_up g 4 n.toNat p), sh_rt sw)) (hn : iR n) (hp : lR p) (hc : 0 ≤ f 1 3 ∧ f 1 3 ≤ 60) (hr : ∀ k, lR (g 4 k)) : am_call (d + 3) 4 [.ref 0, .int (iZ n), .long (lZ p)] (53, sh_lt L, iH f, jH g, sh_rt sw) Q := by
  refine ap_call (by decide) (Nat.le_of_ble_eq_true rfl) rfl ?_
  refine ap_go kc_4_0 ?_
  refine ap_aload_n rfl ?_; refine ap_getR ow_4 rf_7_14 rfl rfl rfl ?_; refine ap_iload_n rfl ?_; refine ap_callv0 ow_4 rm_7_84 na_82 mc_82 ms_82 rfl rfl (Nat.le_of_ble_eq_true rfl) (Nat.le_of_ble_eq_true rfl) (Or.inr rfl) (Nat.zero_le _) (Nat.zero_le _) ?_; refine sp_82 ?_ ?_ ?_; dsimp only [Option.toList_some, Option.toList_none, List.cons_append, List.nil_append]
  refine ai_ifne rfl rfl (fun hb0 => ?_) (fun hb0 => ?_) ?_
  · refine ap_go kc_4_13 ?_
    refine ap_lload_n rfl ?_; refine ai_lconst 0 rfl ?_
    refine ai_lclt rfl rfl (fun hb1 => ?_) (fun hb1 => ?_) ?_
    · refine ap_go kc_4_27 ?_
      refine ai_bipush (by decide) ?_; refine ap_iret rfl ?_
      (try simp only [bz, Decidable.not_not] at *); first | exact K1  (by omega) | exact K2  (by omega) | exact K3  (by omega)
    · refine ap_go kc_4_19 ?_
      refine ap_lload_n rfl ?_; refine ai_ldc2 (1000000) ow_4 kl_7_119 rfl ?_
      refine ai_lcle rfl rfl (fun hb2 => ?_) (fun hb2 => ?_) ?_
      · refine ap_go kc_4_30 ?_
        refine ap_aload_n rfl ?_; refine ap_getR ow_4 rf_7_14 rfl rfl rfl ?_; refine ap_iload_n rfl ?_; refine ap_lload_n rfl ?_; refine ap_callv0 ow_4 rm_7_121 na_88 mc_88 ms_88 rfl rfl (Nat.le_of_ble_eq_true rfl) (Nat.le_of_ble_eq_true rfl) (Or.inr rfl) (Nat.zero_le _) (Nat.zero_le _) ?_; refine sp_88 ?_ ?_; dsimp only [Option.toList_some, Option.toList_none, List.cons_append, List.nil_append]; refine ap_aload_n rfl ?_; refine ap_getR ow_4 rf_7_14 rfl rfl rfl ?_; refine ap_callv0 ow_4 rm_7_125 na_91 mc_91 ms_91 rfl rfl (Nat.le_of_ble_eq_true rfl) (Nat.le_of_ble_eq_true rfl) (Or.inr rfl) (Nat.zero_le _) (Nat.zero_le _) ?_; refine sp_91 ?_ ?_ ?_; dsimp only [Option.toList_some, Option.toList_none, List.cons_append, List.nil_append]; refine ap_iret rfl ?_
        · (try simp only [bz, Decidable.not_not] at *); first | exact K1  (by omega) | exact K2  (by omega) | exact K3  (by omega)
        all_goals (first | omega | (split <;> omega) | (intro k; simp only [am_up]; split <;> first | omega | exact hr k) | (simp only [bz, Decidable.not_not] at *; omega))
      · refine ap_go kc_4_27 ?_
        refine ai_bipush (by decide) ?_; refine ap_iret rfl ?_
        (try simp only [bz, Decidable.not_not] at *); first | exact K1  (by omega) | exact K2  (by omega) | exact K3  (by omega)
      all_goals (first | omega | (split <;> omega) | (intro k; simp only [am_up]; split <;> first | omega | exact hr k) | (simp only [bz, Decidable.not_not] at *; omega))
    all_goals (first | omega | (split <;> omega) | (intro k; simp only [am_up]; split <;> first | omega | exact hr k) | (simp only [bz, Decidable.not_not] at *; omega))
  · refine ap_go kc_4_11 ?_
    refine ai_iconst ?_; refine ap_iret rfl ?_
    (try simp only [bz, Decidable.not_not] at *); first | exact K1  (by omega) | exact K2  (by omega) | exact K3  (by omega)
  all_goals (first | omega | (split <;> omega) | (intro k; simp only [am_up]; split <;> first | omega | exact hr k) | (simp only [bz, Decidable.not_not] at *; omega))

theorem sp_3 {d L : Nat} {sw : Bool} {f g : Nat → Nat → Int} {Q : Option Value → am_H → Prop} {s t b : Int} (K1 : ¬ ((1 ≤ s ∧ s ≤ f 5 8) ∧ (1 ≤ t ∧ t ≤ f 5 8)) → Q (some (.int (iZ (-1)))) (53, sh_lt L, iH f, jH g, sh_rt sw)) (K2 : ((1 ≤ s ∧ s ≤ f 5 8) ∧ (1 ≤ t ∧ t ≤ f 5 8)) ∧ ¬ f 6 t.toNat = f 7 s.toNat → Q (some (.int (iZ (-2)))) (53, sh_lt L, iH f, jH g, sh_rt sw)) (K3 : ((1 ≤ s ∧ s ≤ f 5 8) ∧ (1 ≤ t ∧ t ≤ f 5 8)) ∧ f 6 t.toNat = f 7 s.toNat → (if w_bit (g 13 (2 * s + t / 64).toNat) (t % 64).toNat = true then (1 : Int) else 0) = b → Q (some (.int (iZ (0)))) (53, sh_lt L, iH f, jH g, sh_rt sw)) (K4 : ((1 ≤ s ∧ s ≤ f 5 8) ∧ (1 ≤ t ∧ t ≤ f 5 8)) ∧ f 6 t.toNat = f 7 s.toNat → ¬ (if w_bit (g 13 (2 * s + t / 64).toNat) (t % 64).toNat = true then (1 : Int) else 0) = b → Q (some (.int (iZ (1)))) (53, sh_lt L, iH f, jH (am_up g 13 (s * 2 + t / 64).toNat (w_xor (g 13 (s * 2 + t / 64).toNat) (w_shl 1 (t % 64)))), sh_rt sw)) (hs : iR s) (ht : iR t) (hb : b = 0 ∨ b = 1) (hc : 0 ≤ f 5 8 ∧ f 5 8 ≤ 120) (h6 : ∀ k, iR (f 6 k)) (h7 : ∀ k, iR (f 7 k)) : am_call (d + 2) 3 [.ref 0, .int (iZ s), .int (iZ t), .int (iZ b)] (53, sh_lt L, iH f, jH g, sh_rt sw) Q := by
  refine ap_call (by decide) (Nat.le_of_ble_eq_true rfl) rfl ?_
  refine ap_go kc_3_0 ?_
  refine ap_aload_n rfl ?_; refine ap_getR ow_3 rf_7_21 rfl rfl rfl ?_; refine ap_iload_n rfl ?_; refine ap_callv0 ow_3 rm_7_103 na_94 mc_94 ms_94 rfl rfl (Nat.le_of_ble_eq_true rfl) (Nat.le_of_ble_eq_true rfl) (Or.inr rfl) (Nat.zero_le _) (Nat.zero_le _) ?_; refine sp_94 ?_ ?_ ?_; dsimp only [Option.toList_some, Option.toList_none, List.cons_append, List.nil_append]
  refine ai_ifeq rfl rfl (fun hb0 => ?_) (fun hb0 => ?_) ?_
  · refine ap_go kc_3_22 ?_
    refine ai_iconst ?_; refine ap_iret rfl ?_
    (try simp only [bz, Decidable.not_not] at *); first | exact K1  (by omega) | exact K2  (by omega) | exact K3 (by omega) (by omega) | exact K4 (by omega) (by omega)
  · refine ap_go kc_3_11 ?_
    refine ap_aload_n rfl ?_; refine ap_getR ow_3 rf_7_21 rfl rfl rfl ?_; refine ap_iload_n rfl ?_; refine ap_callv0 ow_3 rm_7_103 na_94 mc_94 ms_94 rfl rfl (Nat.le_of_ble_eq_true rfl) (Nat.le_of_ble_eq_true rfl) (Or.inr rfl) (Nat.zero_le _) (Nat.zero_le _) ?_; refine sp_94 ?_ ?_ ?_; dsimp only [Option.toList_some, Option.toList_none, List.cons_append, List.nil_append]
    refine ai_ifne rfl rfl (fun hb1 => ?_) (fun hb1 => ?_) ?_
    · refine ap_go kc_3_24 ?_
      refine ap_aload_n rfl ?_; refine ap_getR ow_3 rf_7_21 rfl rfl rfl ?_; refine ap_iload_n rfl ?_; refine ap_callv0 ow_3 rm_7_104 na_98 mc_98 ms_98 rfl rfl (Nat.le_of_ble_eq_true rfl) (Nat.le_of_ble_eq_true rfl) (Or.inr rfl) (Nat.zero_le _) (Nat.zero_le _) ?_; refine sp_98 ?_ ?_; dsimp only [Option.toList_some, Option.toList_none, List.cons_append, List.nil_append]; refine ap_aload_n rfl ?_; refine ap_getR ow_3 rf_7_21 rfl rfl rfl ?_; refine ap_iload_n rfl ?_; refine ap_callv0 ow_3 rm_7_108 na_99 mc_99 ms_99 rfl rfl (Nat.le_of_ble_eq_true rfl) (Nat.le_of_ble_eq_true rfl) (Or.inr rfl) (Nat.zero_le _) (Nat.zero_le _) ?_; refine sp_99 ?_ ?_; dsimp only [Option.toList_some, Option.toList_none, List.cons_append, List.nil_append]
      refine ai_iceq rfl rfl (fun hb2 => ?_) (fun hb2 => ?_) ?_
      · refine ap_go kc_3_46 ?_
        refine ap_aload_n rfl ?_; refine ap_getR ow_3 rf_7_21 rfl rfl rfl ?_; refine ap_iload_n rfl ?_; refine ap_iload_n rfl ?_; refine ap_callv0 ow_3 rm_7_111 na_102 mc_102 ms_102 rfl rfl (Nat.le_of_ble_eq_true rfl) (Nat.le_of_ble_eq_true rfl) (Or.inr rfl) (Nat.zero_le _) (Nat.zero_le _) ?_; refine sp_102 ?_ ?_ ?_; dsimp only [Option.toList_some, Option.toList_none, List.cons_append, List.nil_append]; refine ap_iload_n rfl ?_
        refine ai_icne rfl rfl (fun hb3 => ?_) (fun hb3 => ?_) ?_
        · refine ap_go kc_3_61 ?_
          refine ap_aload_n rfl ?_; refine ap_getR ow_3 rf_7_21 rfl rfl rfl ?_; refine ap_iload_n rfl ?_; refine ap_iload_n rfl ?_; refine ap_callv0 ow_3 rm_7_115 na_103 mc_103 ms_103 rfl rfl (Nat.le_of_ble_eq_true rfl) (Nat.le_of_ble_eq_true rfl) (Or.inr rfl) (Nat.zero_le _) (Nat.zero_le _) ?_; refine sp_103 ?_ ?_ ?_; dsimp only [Option.toList_some, Option.toList_none, List.cons_append, List.nil_append]; refine ai_iconst ?_; refine ap_iret rfl ?_
          · (try simp only [bz, Decidable.not_not] at *); first | exact K1  (by omega) | exact K2  (by omega) | exact K3 (by omega) (by omega) | exact K4 (by omega) (by omega)
          all_goals (first | omega | exact ⟨h6 _, h7 _⟩ | (split <;> omega) | (simp only [bz, Decidable.not_not] at *; omega))
        · refine ap_go kc_3_59 ?_
          refine ai_iconst ?_; refine ap_iret rfl ?_
          (try simp only [bz, Decidable.not_not] at *); first | exact K1  (by omega) | exact K2  (by omega) | exact K3 (by omega) (by omega) | exact K4 (by omega) (by omega)
        all_goals (first | omega | exact ⟨h6 _, h7 _⟩ | (split <;> omega) | (simp only [bz, Decidable.not_not] at *; omega))
      · refine ap_go kc_3_43 ?_
        refine ai_bipush (by decide) ?_; refine ap_iret rfl ?_
        (try simp only [bz, Decidable.not_not] at *); first | exact K1  (by omega) | exact K2  (by omega) | exact K3 (by omega) (by omega) | exact K4 (by omega) (by omega)
      all_goals (first | omega | exact ⟨h6 _, h7 _⟩ | (split <;> omega) | (simp only [bz, Decidable.not_not] at *; omega))
    · refine ap_go kc_3_22 ?_
      refine ai_iconst ?_; refine ap_iret rfl ?_
      (try simp only [bz, Decidable.not_not] at *); first | exact K1  (by omega) | exact K2  (by omega) | exact K3 (by omega) (by omega) | exact K4 (by omega) (by omega)
    all_goals (first | omega | exact ⟨h6 _, h7 _⟩ | (split <;> omega) | (simp only [bz, Decidable.not_not] at *; omega))
  all_goals (first | omega | exact ⟨h6 _, h7 _⟩ | (split <;> omega) | (simp only [bz, Decidable.not_not] at *; omega))

theorem sp_9 {d L : Nat} {sw : Bool} {f g : Nat → Nat → Int} {Q : Option Value → am_H → Prop} {s v w : Int} (K1 : ¬ (1 ≤ s ∧ s ≤ f 5 8) → Q (some (.int (iZ (-1)))) (53, sh_lt L, iH f, jH g, sh_rt sw)) (K2 : (1 ≤ s ∧ s ≤ f 5 8) ∧ ¬ (0 ≤ v ∧ v ≤ 1000 ∧ 0 ≤ w) → Q (some (.int (iZ (-2)))) (53, sh_lt L, iH f, jH g, sh_rt sw)) (K3 : (1 ≤ s ∧ s ≤ f 5 8) ∧ (0 ≤ v ∧ v ≤ 1000 ∧ 0 ≤ w) → Q (some (.int (iZ (cZ (fun k => decide (g 0 8 + 1 ≤ am_up (am_up g 11 s.toNat v) 12 s.toNat w 12 k)) (f 5 8).toNat)))) (53, sh_lt L, iH f, jH (am_up (am_up g 11 s.toNat v) 12 s.toNat w), sh_rt sw)) (hs : iR s) (hv : lR v) (hw : lR w) (hc : 0 ≤ f 5 8 ∧ f 5 8 ≤ 120) (hp : 0 ≤ g 0 8 ∧ g 0 8 < 1000000) (hr : ∀ k, lR (g 12 k)) : am_call (d + 2) 9 [.ref 0, .int (iZ s), .long (lZ v), .long (lZ w)] (53, sh_lt L, iH f, jH g, sh_rt sw) Q := by
  refine ap_call (by decide) (Nat.le_of_ble_eq_true rfl) rfl ?_
  refine ap_go kc_9_0 ?_
  refine ap_aload_n rfl ?_; refine ap_getR ow_9 rf_7_21 rfl rfl rfl ?_; refine ap_iload_n rfl ?_; refine ap_callv0 ow_9 rm_7_103 na_94 mc_94 ms_94 rfl rfl (Nat.le_of_ble_eq_true rfl) (Nat.le_of_ble_eq_true rfl) (Or.inr rfl) (Nat.zero_le _) (Nat.zero_le _) ?_; refine sp_94 ?_ ?_ ?_; dsimp only [Option.toList_some, Option.toList_none, List.cons_append, List.nil_append]
  refine ai_ifne rfl rfl (fun hb0 => ?_) (fun hb0 => ?_) ?_
  · refine ap_go kc_9_13 ?_
    refine ap_lload_n rfl ?_; refine ai_lconst 0 rfl ?_
    refine ai_lclt rfl rfl (fun hb1 => ?_) (fun hb1 => ?_) ?_
    · refine ap_go kc_9_34 ?_
      refine ai_bipush (by decide) ?_; refine ap_iret rfl ?_
      (try simp only [bz, Decidable.not_not] at *); first | exact K1  (by omega) | exact K2  (by omega) | exact K3  (by omega)
    · refine ap_go kc_9_19 ?_
      refine ap_lload_n rfl ?_; refine ai_ldc2 (1000) ow_9 kl_7_90 rfl ?_
      refine ai_lcgt rfl rfl (fun hb2 => ?_) (fun hb2 => ?_) ?_
      · refine ap_go kc_9_34 ?_
        refine ai_bipush (by decide) ?_; refine ap_iret rfl ?_
        (try simp only [bz, Decidable.not_not] at *); first | exact K1  (by omega) | exact K2  (by omega) | exact K3  (by omega)
      · refine ap_go kc_9_27 ?_
        refine ap_lload rfl ?_; refine ai_lconst 0 rfl ?_
        refine ai_lcge rfl rfl (fun hb3 => ?_) (fun hb3 => ?_) ?_
        · refine ap_go kc_9_37 ?_
          refine ap_aload_n rfl ?_; refine ap_getR ow_9 rf_7_21 rfl rfl rfl ?_; refine ap_iload_n rfl ?_; refine ap_lload_n rfl ?_; refine ap_lload rfl ?_; refine ap_callv0 ow_9 rm_7_173 na_104 mc_104 ms_104 rfl rfl (Nat.le_of_ble_eq_true rfl) (Nat.le_of_ble_eq_true rfl) (Or.inr rfl) (Nat.zero_le _) (Nat.zero_le _) ?_; refine sp_104 ?_ ?_; dsimp only [Option.toList_some, Option.toList_none, List.cons_append, List.nil_append]; refine ap_aload_n rfl ?_; refine ap_getR ow_9 rf_7_21 rfl rfl rfl ?_; refine ap_aload_n rfl ?_; refine ai_getJ ow_9 rf_7_62 rfl rfl ?_; refine ai_lconst 1 rfl ?_; refine ai_ladd ?_; refine ap_callv0 ow_9 rm_7_177 na_105 mc_105 ms_105 rfl rfl (Nat.le_of_ble_eq_true rfl) (Nat.le_of_ble_eq_true rfl) (Or.inr rfl) (Nat.zero_le _) (Nat.zero_le _) ?_; refine sp_105 ?_ ?_ ?_ ?_; dsimp only [Option.toList_some, Option.toList_none, List.cons_append, List.nil_append]; refine ap_iret rfl ?_
          · (try simp only [bz, Decidable.not_not] at *); first | exact K1  (by omega) | exact K2  (by omega) | exact K3  (by omega)
          all_goals (first | omega | (simp [am_up] <;> omega) | (intro k; simp only [am_up]; split <;> first | omega | (split <;> first | omega | exact hr k) | exact hr k) | (split <;> omega) | (simp only [bz, Decidable.not_not] at *; omega))
        · refine ap_go kc_9_34 ?_
          refine ai_bipush (by decide) ?_; refine ap_iret rfl ?_
          (try simp only [bz, Decidable.not_not] at *); first | exact K1  (by omega) | exact K2  (by omega) | exact K3  (by omega)
        all_goals (first | omega | (simp [am_up] <;> omega) | (intro k; simp only [am_up]; split <;> first | omega | (split <;> first | omega | exact hr k) | exact hr k) | (split <;> omega) | (simp only [bz, Decidable.not_not] at *; omega))
      all_goals (first | omega | (simp [am_up] <;> omega) | (intro k; simp only [am_up]; split <;> first | omega | (split <;> first | omega | exact hr k) | exact hr k) | (split <;> omega) | (simp only [bz, Decidable.not_not] at *; omega))
    all_goals (first | omega | (simp [am_up] <;> omega) | (intro k; simp only [am_up]; split <;> first | omega | (split <;> first | omega | exact hr k) | exact hr k) | (split <;> omega) | (simp only [bz, Decidable.not_not] at *; omega))
  · refine ap_go kc_9_11 ?_
    refine ai_iconst ?_; refine ap_iret rfl ?_
    (try simp only [bz, Decidable.not_not] at *); first | exact K1  (by omega) | exact K2  (by omega) | exact K3  (by omega)
  all_goals (first | omega | (simp [am_up] <;> omega) | (intro k; simp only [am_up]; split <;> first | omega | (split <;> first | omega | exact hr k) | exact hr k) | (split <;> omega) | (simp only [bz, Decidable.not_not] at *; omega))

theorem sp_12 {d L : Nat} {sw : Bool} {f g : Nat → Nat → Int} {Q : Option Value → am_H → Prop} {c : Int} (K1 : ¬ (c = 0 ∨ 97 ≤ c ∧ c ≤ 122) → Q (some (.int (iZ (-2)))) (53, sh_lt L, iH f, jH g, sh_rt sw)) (K2 : 97 ≤ c ∧ c ≤ 122 ∧ f 24 1 = 3 → Q (some (.int (iZ (-3)))) (53, sh_lt L, iH f, jH g, sh_rt sw)) (K3 : c = 0 → Q (some (.int (iZ (cZ (fun n => begB (am_up f 24 1 0) n) (f 1 3).toNat)))) (53, sh_lt L, iH (am_up f 24 1 0), jH g, sh_rt sw)) (K4 : 97 ≤ c ∧ c ≤ 122 ∧ f 24 1 < 3 → Q (some (.int (iZ (cZ (fun n => begB (am_up (am_up f 25 (f 24 1).toNat (c - 97)) 24 1 (f 24 1 + 1)) n) (f 1 3).toNat)))) (53, sh_lt L, iH (am_up (am_up f 25 (f 24 1).toNat (c - 97)) 24 1 (f 24 1 + 1)), jH g, sh_rt sw)) (hc : iR c) (hs : 0 ≤ f 24 1 ∧ f 24 1 ≤ 3) (hn : 0 ≤ f 1 3 ∧ f 1 3 ≤ 60) (hv : ∀ k, iR (f 25 k)) : am_call (d + 4) 12 [.ref 0, .int (iZ c)] (53, sh_lt L, iH f, jH g, sh_rt sw) Q := by
  refine ap_call (by decide) (Nat.le_of_ble_eq_true rfl) rfl ?_
  refine ap_go kc_12_0 ?_
  refine ap_iload_n rfl ?_
  refine ai_ifeq rfl rfl (fun hb0 => ?_) (fun hb0 => ?_) ?_
  · refine ap_go kc_12_18 ?_
    refine ap_iload_n rfl ?_
    refine ai_ifne rfl rfl (fun hb1 => ?_) (fun hb1 => ?_) ?_
    · refine ap_go kc_12_32 ?_
      refine ap_aload_n rfl ?_; refine ap_getR ow_12 rf_7_37 rfl rfl rfl ?_; refine ap_callv0 ow_12 rm_7_198 na_74 mc_74 ms_74 rfl rfl (Nat.le_of_ble_eq_true rfl) (Nat.le_of_ble_eq_true rfl) (Or.inr rfl) (Nat.zero_le _) (Nat.zero_le _) ?_; refine sp_74 ?_ ?_; dsimp only [Option.toList_some, Option.toList_none, List.cons_append, List.nil_append]
      refine ai_ifeq rfl rfl (fun hb2 => ?_) (fun hb2 => ?_) ?_
      · refine ap_go kc_12_45 ?_
        refine ap_aload_n rfl ?_; refine ap_getR ow_12 rf_7_37 rfl rfl rfl ?_; refine ap_iload_n rfl ?_; refine ap_callv0 ow_12 rm_7_199 na_76 mc_76 ms_76 rfl rfl (Nat.le_of_ble_eq_true rfl) (Nat.le_of_ble_eq_true rfl) (Or.inr rfl) (Nat.zero_le _) (Nat.zero_le _) ?_; refine sp_76 ?_ ?_; dsimp only [Option.toList_some, Option.toList_none, List.cons_append, List.nil_append]; refine ap_nil ?_
        · refine ap_go kc_12_53 ?_
          refine ap_aload_n rfl ?_; refine ap_getR ow_12 rf_7_37 rfl rfl rfl ?_; refine ap_aload_n rfl ?_; refine ap_getR ow_12 rf_7_14 rfl rfl rfl ?_; refine ap_callv0 ow_12 rm_7_202 na_81 mc_81 ms_81 rfl rfl (Nat.le_of_ble_eq_true rfl) (Nat.le_of_ble_eq_true rfl) (Or.inr rfl) (Nat.zero_le _) (Nat.zero_le _) ?_; refine sp_81 ?_; dsimp only [Option.toList_some, Option.toList_none, List.cons_append, List.nil_append]; refine ap_callv0 ow_12 rm_7_203 na_77 mc_77 ms_77 rfl rfl (Nat.le_of_ble_eq_true rfl) (Nat.le_of_ble_eq_true rfl) (Or.inr rfl) (Nat.zero_le _) (Nat.zero_le _) ?_; refine sp_77 ?_ ?_ ?_ ?_; dsimp only [Option.toList_some, Option.toList_none, List.cons_append, List.nil_append]; refine ap_iret rfl ?_
          · (try simp only [bz, Decidable.not_not] at *); first | exact K1  (by omega) | exact K2  (by omega) | exact K3  (by omega) | exact K4  (by omega)
          all_goals (first | omega | (simp [am_up] <;> omega) | (intro k; simp only [am_up]; split <;> first | omega | (split <;> first | omega | exact hv k) | exact hv k) | (simp only [bz, Decidable.not_not] at *; omega) | (simp only [bz, Decidable.not_not] at *; simp [am_up] <;> omega))
        all_goals (first | omega | (simp [am_up] <;> omega) | (intro k; simp only [am_up]; split <;> first | omega | (split <;> first | omega | exact hv k) | exact hv k) | (simp only [bz, Decidable.not_not] at *; omega) | (simp only [bz, Decidable.not_not] at *; simp [am_up] <;> omega))
      · refine ap_go kc_12_42 ?_
        refine ai_bipush (by decide) ?_; refine ap_iret rfl ?_
        (try simp only [bz, Decidable.not_not] at *); first | exact K1  (by omega) | exact K2  (by omega) | exact K3  (by omega) | exact K4  (by omega)
      all_goals (first | omega | (simp [am_up] <;> omega) | (intro k; simp only [am_up]; split <;> first | omega | (split <;> first | omega | exact hv k) | exact hv k) | (simp only [bz, Decidable.not_not] at *; omega) | (simp only [bz, Decidable.not_not] at *; simp [am_up] <;> omega))
    · refine ap_go kc_12_22 ?_
      refine ap_aload_n rfl ?_; refine ap_getR ow_12 rf_7_37 rfl rfl rfl ?_; refine ap_callv0 ow_12 rm_7_195 na_75 mc_75 ms_75 rfl rfl (Nat.le_of_ble_eq_true rfl) (Nat.le_of_ble_eq_true rfl) (Or.inr rfl) (Nat.zero_le _) (Nat.zero_le _) ?_; refine sp_75 ?_; dsimp only [Option.toList_some, Option.toList_none, List.cons_append, List.nil_append]; refine ap_goto rfl ?_
      refine ap_go kc_12_53 ?_
      refine ap_aload_n rfl ?_; refine ap_getR ow_12 rf_7_37 rfl rfl rfl ?_; refine ap_aload_n rfl ?_; refine ap_getR ow_12 rf_7_14 rfl rfl rfl ?_; refine ap_callv0 ow_12 rm_7_202 na_81 mc_81 ms_81 rfl rfl (Nat.le_of_ble_eq_true rfl) (Nat.le_of_ble_eq_true rfl) (Or.inr rfl) (Nat.zero_le _) (Nat.zero_le _) ?_; refine sp_81 ?_; dsimp only [Option.toList_some, Option.toList_none, List.cons_append, List.nil_append]; refine ap_callv0 ow_12 rm_7_203 na_77 mc_77 ms_77 rfl rfl (Nat.le_of_ble_eq_true rfl) (Nat.le_of_ble_eq_true rfl) (Or.inr rfl) (Nat.zero_le _) (Nat.zero_le _) ?_; refine sp_77 ?_ ?_ ?_ ?_; dsimp only [Option.toList_some, Option.toList_none, List.cons_append, List.nil_append]; refine ap_iret rfl ?_
      · (try simp only [bz, Decidable.not_not] at *); first | exact K1  (by omega) | exact K2  (by omega) | exact K3  (by omega) | exact K4  (by omega)
      all_goals (first | omega | (simp [am_up] <;> omega) | (intro k; simp only [am_up]; split <;> first | omega | (split <;> first | omega | exact hv k) | exact hv k) | (simp only [bz, Decidable.not_not] at *; omega) | (simp only [bz, Decidable.not_not] at *; simp [am_up] <;> omega))
    all_goals (first | omega | (simp [am_up] <;> omega) | (intro k; simp only [am_up]; split <;> first | omega | (split <;> first | omega | exact hv k) | exact hv k) | (simp only [bz, Decidable.not_not] at *; omega) | (simp only [bz, Decidable.not_not] at *; simp [am_up] <;> omega))
  · refine ap_go kc_12_4 ?_
    refine ap_aload_n rfl ?_; refine ap_getR ow_12 rf_7_37 rfl rfl rfl ?_; refine ap_iload_n rfl ?_; refine ap_callv0 ow_12 rm_7_192 na_73 mc_73 ms_73 rfl rfl (Nat.le_of_ble_eq_true rfl) (Nat.le_of_ble_eq_true rfl) (Or.inr rfl) (Nat.zero_le _) (Nat.zero_le _) ?_; refine sp_73 ?_ ?_; dsimp only [Option.toList_some, Option.toList_none, List.cons_append, List.nil_append]
    refine ai_ifne rfl rfl (fun hb3 => ?_) (fun hb3 => ?_) ?_
    · refine ap_go kc_12_18 ?_
      refine ap_iload_n rfl ?_
      refine ai_ifne rfl rfl (fun hb4 => ?_) (fun hb4 => ?_) ?_
      · refine ap_go kc_12_32 ?_
        refine ap_aload_n rfl ?_; refine ap_getR ow_12 rf_7_37 rfl rfl rfl ?_; refine ap_callv0 ow_12 rm_7_198 na_74 mc_74 ms_74 rfl rfl (Nat.le_of_ble_eq_true rfl) (Nat.le_of_ble_eq_true rfl) (Or.inr rfl) (Nat.zero_le _) (Nat.zero_le _) ?_; refine sp_74 ?_ ?_; dsimp only [Option.toList_some, Option.toList_none, List.cons_append, List.nil_append]
        refine ai_ifeq rfl rfl (fun hb5 => ?_) (fun hb5 => ?_) ?_
        · refine ap_go kc_12_45 ?_
          refine ap_aload_n rfl ?_; refine ap_getR ow_12 rf_7_37 rfl rfl rfl ?_; refine ap_iload_n rfl ?_; refine ap_callv0 ow_12 rm_7_199 na_76 mc_76 ms_76 rfl rfl (Nat.le_of_ble_eq_true rfl) (Nat.le_of_ble_eq_true rfl) (Or.inr rfl) (Nat.zero_le _) (Nat.zero_le _) ?_; refine sp_76 ?_ ?_; dsimp only [Option.toList_some, Option.toList_none, List.cons_append, List.nil_append]; refine ap_nil ?_
          · refine ap_go kc_12_53 ?_
            refine ap_aload_n rfl ?_; refine ap_getR ow_12 rf_7_37 rfl rfl rfl ?_; refine ap_aload_n rfl ?_; refine ap_getR ow_12 rf_7_14 rfl rfl rfl ?_; refine ap_callv0 ow_12 rm_7_202 na_81 mc_81 ms_81 rfl rfl (Nat.le_of_ble_eq_true rfl) (Nat.le_of_ble_eq_true rfl) (Or.inr rfl) (Nat.zero_le _) (Nat.zero_le _) ?_; refine sp_81 ?_; dsimp only [Option.toList_some, Option.toList_none, List.cons_append, List.nil_append]; refine ap_callv0 ow_12 rm_7_203 na_77 mc_77 ms_77 rfl rfl (Nat.le_of_ble_eq_true rfl) (Nat.le_of_ble_eq_true rfl) (Or.inr rfl) (Nat.zero_le _) (Nat.zero_le _) ?_; refine sp_77 ?_ ?_ ?_ ?_; dsimp only [Option.toList_some, Option.toList_none, List.cons_append, List.nil_append]; refine ap_iret rfl ?_
            · (try simp only [bz, Decidable.not_not] at *); first | exact K1  (by omega) | exact K2  (by omega) | exact K3  (by omega) | exact K4  (by omega)
            all_goals (first | omega | (simp [am_up] <;> omega) | (intro k; simp only [am_up]; split <;> first | omega | (split <;> first | omega | exact hv k) | exact hv k) | (simp only [bz, Decidable.not_not] at *; omega) | (simp only [bz, Decidable.not_not] at *; simp [am_up] <;> omega))
          all_goals (first | omega | (simp [am_up] <;> omega) | (intro k; simp only [am_up]; split <;> first | omega | (split <;> first | omega | exact hv k) | exact hv k) | (simp only [bz, Decidable.not_not] at *; omega) | (simp only [bz, Decidable.not_not] at *; simp [am_up] <;> omega))
        · refine ap_go kc_12_42 ?_
          refine ai_bipush (by decide) ?_; refine ap_iret rfl ?_
          (try simp only [bz, Decidable.not_not] at *); first | exact K1  (by omega) | exact K2  (by omega) | exact K3  (by omega) | exact K4  (by omega)
        all_goals (first | omega | (simp [am_up] <;> omega) | (intro k; simp only [am_up]; split <;> first | omega | (split <;> first | omega | exact hv k) | exact hv k) | (simp only [bz, Decidable.not_not] at *; omega) | (simp only [bz, Decidable.not_not] at *; simp [am_up] <;> omega))
      · refine ap_go kc_12_22 ?_
        refine ap_aload_n rfl ?_; refine ap_getR ow_12 rf_7_37 rfl rfl rfl ?_; refine ap_callv0 ow_12 rm_7_195 na_75 mc_75 ms_75 rfl rfl (Nat.le_of_ble_eq_true rfl) (Nat.le_of_ble_eq_true rfl) (Or.inr rfl) (Nat.zero_le _) (Nat.zero_le _) ?_; refine sp_75 ?_; dsimp only [Option.toList_some, Option.toList_none, List.cons_append, List.nil_append]; refine ap_goto rfl ?_
        refine ap_go kc_12_53 ?_
        refine ap_aload_n rfl ?_; refine ap_getR ow_12 rf_7_37 rfl rfl rfl ?_; refine ap_aload_n rfl ?_; refine ap_getR ow_12 rf_7_14 rfl rfl rfl ?_; refine ap_callv0 ow_12 rm_7_202 na_81 mc_81 ms_81 rfl rfl (Nat.le_of_ble_eq_true rfl) (Nat.le_of_ble_eq_true rfl) (Or.inr rfl) (Nat.zero_le _) (Nat.zero_le _) ?_; refine sp_81 ?_; dsimp only [Option.toList_some, Option.toList_none, List.cons_append, List.nil_append]; refine ap_callv0 ow_12 rm_7_203 na_77 mc_77 ms_77 rfl rfl (Nat.le_of_ble_eq_true rfl) (Nat.le_of_ble_eq_true rfl) (Or.inr rfl) (Nat.zero_le _) (Nat.zero_le _) ?_; refine sp_77 ?_ ?_ ?_ ?_; dsimp only [Option.toList_some, Option.toList_none, List.cons_append, List.nil_append]; refine ap_iret rfl ?_
        · (try simp only [bz, Decidable.not_not] at *); first | exact K1  (by omega) | exact K2  (by omega) | exact K3  (by omega) | exact K4  (by omega)
        all_goals (first | omega | (simp [am_up] <;> omega) | (intro k; simp only [am_up]; split <;> first | omega | (split <;> first | omega | exact hv k) | exact hv k) | (simp only [bz, Decidable.not_not] at *; omega) | (simp only [bz, Decidable.not_not] at *; simp [am_up] <;> omega))
      all_goals (first | omega | (simp [am_up] <;> omega) | (intro k; simp only [am_up]; split <;> first | omega | (split <;> first | omega | exact hv k) | exact hv k) | (simp only [bz, Decidable.not_not] at *; omega) | (simp only [bz, Decidable.not_not] at *; simp [am_up] <;> omega))
    · refine ap_go kc_12_15 ?_
      refine ai_bipush (by decide) ?_; refine ap_iret rfl ?_
      (try simp only [bz, Decidable.not_not] at *); first | exact K1  (by omega) | exact K2  (by omega) | exact K3  (by omega) | exact K4  (by omega)
    all_goals (first | omega | (simp [am_up] <;> omega) | (intro k; simp only [am_up]; split <;> first | omega | (split <;> first | omega | exact hv k) | exact hv k) | (simp only [bz, Decidable.not_not] at *; omega) | (simp only [bz, Decidable.not_not] at *; simp [am_up] <;> omega))
  all_goals (first | omega | (simp [am_up] <;> omega) | (intro k; simp only [am_up]; split <;> first | omega | (split <;> first | omega | exact hv k) | exact hv k) | (simp only [bz, Decidable.not_not] at *; omega) | (simp only [bz, Decidable.not_not] at *; simp [am_up] <;> omega))

theorem sp_13 {d L : Nat} {sw : Bool} {f g : Nat → Nat → Int} {Q : Option Value → am_H → Prop}  (K1 : Q (some (.int (iZ (f 0 9)))) (53, sh_lt L, iH f, jH g, sh_rt sw))  : am_call (d + 1) 13 [.ref 0] (53, sh_lt L, iH f, jH g, sh_rt sw) Q := by
  refine ap_call (by decide) (Nat.le_of_ble_eq_true rfl) rfl ?_
  refine ap_go kc_13_0 ?_
  refine ap_aload_n rfl ?_; refine ai_getI ow_13 rf_7_66 rfl rfl ?_; refine ap_iret rfl ?_
  (try simp only [bz, Decidable.not_not] at *); first | exact K1
end
section
/-! THE REFERENCE: its simple calls -/
theorem am_le_0 {l : am_L} : am_le [] l := fun i v h => by simp [am_lk] at h
theorem am_le_n {x : Option Value} {l l' : am_L} (h : am_le l l') : am_le (none :: l) (x :: l') := fun i v hv => by
  cases i with
  | zero => simp [am_lk] at hv
  | succ i => exact h i v hv
theorem am_le_s {v : Value} {l l' : am_L} (h : am_le l l') : am_le (some v :: l) (some v :: l') := fun i w hw => by
  cases i with
  | zero => exact hw
  | succ i => exact h i w hw

theorem sp_25 {d L : Nat} {sw : Bool} {f g : Nat → Nat → Int} {Q : Option Value → am_H → Prop}  (K : Q (some (.int (iZ (f 31 0)))) (53, sh_lt L, iH f, jH g, sh_rt sw))  : am_call (d + 1) 25 [.ref 31] (53, sh_lt L, iH f, jH g, sh_rt sw) Q := by
  refine ap_call (by decide) (Nat.le_of_ble_eq_true rfl) rfl ?_
  refine ap_go kc_25_0 ?_
  refine ap_aload_n rfl ?_; refine ai_getI ow_25 rf_8_82 rfl rfl ?_; refine ap_iret rfl ?_
  exact K

theorem sp_26 {d L : Nat} {sw : Bool} {f g : Nat → Nat → Int} {Q : Option Value → am_H → Prop} {n : Int} (K : Q (some (.int (iZ (if ¬ (1 ≤ n ∧ n ≤ f 31 1) then 1 else 0)))) (53, sh_lt L, iH f, jH g, sh_rt sw)) (hn : iR n) (hc : iR (f 31 1)) : am_call (d + 1) 26 [.ref 31, .int (iZ n)] (53, sh_lt L, iH f, jH g, sh_rt sw) Q := by
  refine ap_call (by decide) (Nat.le_of_ble_eq_true rfl) rfl ?_
  refine ap_go kc_26_0 ?_
  refine ap_iload_n rfl ?_; refine ai_iconst ?_
  refine ai_iclt rfl rfl (fun hb0 => ?_) (fun hb0 => ?_) ?_
  · refine ap_go kc_26_13 ?_
    refine ai_iconst ?_; refine ap_goto rfl ?_
    refine ap_go kc_26_18 ?_
    refine ai_zret rfl ?_ ?_
    · exact sq K (by first | rfl | omega | (split <;> omega) | (split <;> split <;> omega))
    all_goals (omega)
  · refine ap_go kc_26_5 ?_
    refine ap_iload_n rfl ?_; refine ap_aload_n rfl ?_; refine ai_getI ow_26 rf_8_85 rfl rfl ?_
    refine ai_icle rfl rfl (fun hb1 => ?_) (fun hb1 => ?_) ?_
    · refine ap_go kc_26_17 ?_
      refine ai_iconst ?_; refine ap_nil ?_
      refine ap_go kc_26_18 ?_
      refine ai_zret rfl ?_ ?_
      · exact sq K (by first | rfl | omega | (split <;> omega) | (split <;> split <;> omega))
      all_goals (omega)
    · refine ap_go kc_26_13 ?_
      refine ai_iconst ?_; refine ap_goto rfl ?_
      refine ap_go kc_26_18 ?_
      refine ai_zret rfl ?_ ?_
      · exact sq K (by first | rfl | omega | (split <;> omega) | (split <;> split <;> omega))
      all_goals (omega)
    all_goals (omega)
  all_goals (omega)

theorem sp_27 {d L : Nat} {sw : Bool} {f g : Nat → Nat → Int} {Q : Option Value → am_H → Prop} {n : Int} (K : Q (some (.int (iZ (if ¬ (1 ≤ n ∧ n ≤ f 31 5) then 1 else 0)))) (53, sh_lt L, iH f, jH g, sh_rt sw)) (hn : iR n) (hc : iR (f 31 5)) : am_call (d + 1) 27 [.ref 31, .int (iZ n)] (53, sh_lt L, iH f, jH g, sh_rt sw) Q := by
  refine ap_call (by decide) (Nat.le_of_ble_eq_true rfl) rfl ?_
  refine ap_go kc_27_0 ?_
  refine ap_iload_n rfl ?_; refine ai_iconst ?_
  refine ai_iclt rfl rfl (fun hb0 => ?_) (fun hb0 => ?_) ?_
  · refine ap_go kc_27_13 ?_
    refine ai_iconst ?_; refine ap_goto rfl ?_
    refine ap_go kc_27_18 ?_
    refine ai_zret rfl ?_ ?_
    · exact sq K (by first | rfl | omega | (split <;> omega) | (split <;> split <;> omega))
    all_goals (omega)
  · refine ap_go kc_27_5 ?_
    refine ap_iload_n rfl ?_; refine ap_aload_n rfl ?_; refine ai_getI ow_27 rf_8_88 rfl rfl ?_
    refine ai_icle rfl rfl (fun hb1 => ?_) (fun hb1 => ?_) ?_
    · refine ap_go kc_27_17 ?_
      refine ai_iconst ?_; refine ap_nil ?_
      refine ap_go kc_27_18 ?_
      refine ai_zret rfl ?_ ?_
      · exact sq K (by first | rfl | omega | (split <;> omega) | (split <;> split <;> omega))
      all_goals (omega)
    · refine ap_go kc_27_13 ?_
      refine ai_iconst ?_; refine ap_goto rfl ?_
      refine ap_go kc_27_18 ?_
      refine ai_zret rfl ?_ ?_
      · exact sq K (by first | rfl | omega | (split <;> omega) | (split <;> split <;> omega))
      all_goals (omega)
    all_goals (omega)
  all_goals (omega)

theorem sp_28 {d L : Nat} {sw : Bool} {f g : Nat → Nat → Int} {Q : Option Value → am_H → Prop} {f1 : Nat → Nat → Int} {x y : Int} (hf : am_up f 31 0 0 = f1) (K1 : ¬ (-10000 ≤ x ∧ x ≤ 10000 ∧ -10000 ≤ y ∧ y ≤ 10000) → Q (some (.int (iZ (-2)))) (53, sh_lt L, iH f1, jH g, sh_rt sw)) (K2 : (-10000 ≤ x ∧ x ≤ 10000 ∧ -10000 ≤ y ∧ y ≤ 10000) ∧ f1 31 1 = 60 → Q (some (.int (iZ (-4)))) (53, sh_lt L, iH f1, jH g, sh_rt sw)) (K3 : (-10000 ≤ x ∧ x ≤ 10000 ∧ -10000 ≤ y ∧ y ≤ 10000) ∧ f1 31 1 < 60 → Q (some (.int (iZ ((f1 31 1 + 1))))) (53, sh_lt L, iH (am_up f1 31 1 (f1 31 1 + 1)), jH (am_up (am_up g 32 (f1 31 1 + 1).toNat x) 33 (f1 31 1 + 1).toNat y), sh_rt sw)) (hx : lR x) (hy : lR y) (hc : 0 ≤ f1 31 1 ∧ f1 31 1 ≤ 60) : am_call (d + 1) 28 [.ref 31, .long (lZ x), .long (lZ y)] (53, sh_lt L, iH f, jH g, sh_rt sw) Q := by
  refine ap_call (by decide) (Nat.le_of_ble_eq_true rfl) rfl ?_
  refine ap_go kc_28_0 ?_
  refine ap_aload_n rfl ?_; refine ai_iconst ?_; refine ai_putI ow_28 rf_8_82 rfl rfl rfl ?_
  rw [hf]
  refine ap_lload_n rfl ?_; refine ai_ldc2 (-10000) ow_28 kl_8_91 rfl ?_
  refine ai_lclt rfl rfl (fun hb0 => ?_) (fun hb0 => ?_) ?_
  · refine ap_go kc_28_37 ?_
    refine ai_bipush (by decide) ?_; refine ap_iret rfl ?_
    (try simp only [bz, Decidable.not_not] at *); first | exact K1  (by omega) | exact K2  (by omega) | exact K3  (by omega)
  · refine ap_go kc_28_13 ?_
    refine ap_lload_n rfl ?_; refine ai_ldc2 (10000) ow_28 kl_8_93 rfl ?_
    refine ai_lcgt rfl rfl (fun hb1 => ?_) (fun hb1 => ?_) ?_
    · refine ap_go kc_28_37 ?_
      refine ai_bipush (by decide) ?_; refine ap_iret rfl ?_
      (try simp only [bz, Decidable.not_not] at *); first | exact K1  (by omega) | exact K2  (by omega) | exact K3  (by omega)
    · refine ap_go kc_28_21 ?_
      refine ap_lload_n rfl ?_; refine ai_ldc2 (-10000) ow_28 kl_8_91 rfl ?_
      refine ai_lclt rfl rfl (fun hb2 => ?_) (fun hb2 => ?_) ?_
      · refine ap_go kc_28_37 ?_
        refine ai_bipush (by decide) ?_; refine ap_iret rfl ?_
        (try simp only [bz, Decidable.not_not] at *); first | exact K1  (by omega) | exact K2  (by omega) | exact K3  (by omega)
      · refine ap_go kc_28_29 ?_
        refine ap_lload_n rfl ?_; refine ai_ldc2 (10000) ow_28 kl_8_93 rfl ?_
        refine ai_lcle rfl rfl (fun hb3 => ?_) (fun hb3 => ?_) ?_
        · refine ap_go kc_28_40 ?_
          refine ap_aload_n rfl ?_; refine ai_getI ow_28 rf_8_85 rfl rfl ?_; refine ai_bipush (by decide) ?_
          refine ai_icne rfl rfl (fun hb4 => ?_) (fun hb4 => ?_) ?_
          · refine ap_go kc_28_52 ?_
            refine ap_aload_n rfl ?_; refine ap_dup rfl ?_; refine ai_getI ow_28 rf_8_85 rfl rfl ?_; refine ai_iconst ?_; refine ai_iadd ?_; refine ai_putI ow_28 rf_8_85 rfl rfl rfl ?_; refine ap_aload_n rfl ?_; refine ap_getR ow_28 rf_8_7 rfl rfl rfl ?_; refine ap_aload_n rfl ?_; refine ai_getI ow_28 rf_8_85 rfl rfl ?_; refine ap_lload_n rfl ?_; refine ai_lastore (n := 61) rfl rfl (by decide) ?_ ?_; refine ap_aload_n rfl ?_; refine ap_getR ow_28 rf_8_13 rfl rfl rfl ?_; refine ap_aload_n rfl ?_; refine ai_getI ow_28 rf_8_85 rfl rfl ?_; refine ap_lload_n rfl ?_; refine ai_lastore (n := 61) rfl rfl (by decide) ?_ ?_; refine ap_aload_n rfl ?_; refine ai_getI ow_28 rf_8_85 rfl rfl ?_; refine ap_iret rfl ?_
            · (try simp only [bz, Decidable.not_not] at *); first | exact K1  (by omega) | exact K2  (by omega) | exact K3  (by omega)
            all_goals (first | omega | (simp [am_up] <;> omega))
          · refine ap_go kc_28_49 ?_
            refine ai_bipush (by decide) ?_; refine ap_iret rfl ?_
            (try simp only [bz, Decidable.not_not] at *); first | exact K1  (by omega) | exact K2  (by omega) | exact K3  (by omega)
          all_goals (first | omega | (simp [am_up] <;> omega))
        · refine ap_go kc_28_37 ?_
          refine ai_bipush (by decide) ?_; refine ap_iret rfl ?_
          (try simp only [bz, Decidable.not_not] at *); first | exact K1  (by omega) | exact K2  (by omega) | exact K3  (by omega)
        all_goals (first | omega | (simp [am_up] <;> omega))
      all_goals (first | omega | (simp [am_up] <;> omega))
    all_goals (first | omega | (simp [am_up] <;> omega))
  all_goals (first | omega | (simp [am_up] <;> omega))

theorem sp_30 {d L : Nat} {sw : Bool} {f g : Nat → Nat → Int} {Q : Option Value → am_H → Prop} {f1 : Nat → Nat → Int} {s t b : Int} (hf : am_up f 31 0 0 = f1) (K1 : ¬ ((1 ≤ s ∧ s ≤ f1 31 5) ∧ (1 ≤ t ∧ t ≤ f1 31 5)) → Q (some (.int (iZ (-1)))) (53, sh_lt L, iH f1, jH g, sh_rt sw)) (K2 : ((1 ≤ s ∧ s ≤ f1 31 5) ∧ (1 ≤ t ∧ t ≤ f1 31 5)) ∧ ¬ f1 36 s.toNat = f1 35 t.toNat → Q (some (.int (iZ (-2)))) (53, sh_lt L, iH f1, jH g, sh_rt sw)) (K3 : ((1 ≤ s ∧ s ≤ f1 31 5) ∧ (1 ≤ t ∧ t ≤ f1 31 5)) ∧ f1 36 s.toNat = f1 35 t.toNat → f1 42 (121 * s + t).toNat = b → Q (some (.int (iZ (0)))) (53, sh_lt L, iH (am_up f1 42 (121 * s + t).toNat b), jH g, sh_rt sw)) (K4 : ((1 ≤ s ∧ s ≤ f1 31 5) ∧ (1 ≤ t ∧ t ≤ f1 31 5)) ∧ f1 36 s.toNat = f1 35 t.toNat → ¬ f1 42 (121 * s + t).toNat = b → Q (some (.int (iZ (1)))) (53, sh_lt L, iH (am_up f1 42 (121 * s + t).toNat b), jH g, sh_rt sw)) (hs : iR s) (ht : iR t) (hbb : b = 0 ∨ b = 1) (hc : 0 ≤ f1 31 5 ∧ f1 31 5 ≤ 120) (h6 : ∀ k, iR (f1 35 k)) (h7 : ∀ k, iR (f1 36 k)) (h8 : ∀ k, f1 42 k = 0 ∨ f1 42 k = 1) : am_call (d + 2) 30 [.ref 31, .int (iZ s), .int (iZ t), .int (iZ b)] (53, sh_lt L, iH f, jH g, sh_rt sw) Q := by
  refine ap_call (by decide) (Nat.le_of_ble_eq_true rfl) rfl ?_
  refine ap_go kc_30_0 ?_
  refine ap_aload_n rfl ?_; refine ai_iconst ?_; refine ai_putI ow_30 rf_8_82 rfl rfl rfl ?_
  rw [hf]
  refine ap_aload_n rfl ?_; refine ap_iload_n rfl ?_; refine ap_callv0 ow_30 rm_8_105 na_27 mc_27 ms_27 rfl rfl (Nat.le_of_ble_eq_true rfl) (Nat.le_of_ble_eq_true rfl) (Or.inr rfl) (Nat.zero_le _) (Nat.zero_le _) ?_; refine sp_27 ?_ ?_ ?_; dsimp only [Option.toList_some, Option.toList_none, List.cons_append, List.nil_append]
  refine ai_ifne rfl rfl (fun hb0 => ?_) (fun hb0 => ?_) ?_
  · refine ap_go kc_30_21 ?_
    refine ai_iconst ?_; refine ap_iret rfl ?_
    (try simp only [bz, Decidable.not_not] at *); first | exact K1  (by omega) | exact K2  (by omega) | exact K3 (by omega) (by omega) | exact K4 (by omega) (by omega)
  · refine ap_go kc_30_13 ?_
    refine ap_aload_n rfl ?_; refine ap_iload_n rfl ?_; refine ap_callv0 ow_30 rm_8_105 na_27 mc_27 ms_27 rfl rfl (Nat.le_of_ble_eq_true rfl) (Nat.le_of_ble_eq_true rfl) (Or.inr rfl) (Nat.zero_le _) (Nat.zero_le _) ?_; refine sp_27 ?_ ?_ ?_; dsimp only [Option.toList_some, Option.toList_none, List.cons_append, List.nil_append]
    refine ai_ifeq rfl rfl (fun hb1 => ?_) (fun hb1 => ?_) ?_
    · refine ap_go kc_30_23 ?_
      refine ap_aload_n rfl ?_; refine ap_getR ow_30 rf_8_23 rfl rfl rfl ?_; refine ap_iload_n rfl ?_; refine ai_iaload (n := 121) rfl rfl (by decide) ?_ ?_; refine ap_aload_n rfl ?_; refine ap_getR ow_30 rf_8_19 rfl rfl rfl ?_; refine ap_iload_n rfl ?_; refine ai_iaload (n := 121) rfl rfl (by decide) ?_ ?_
      refine ai_iceq rfl rfl (fun hb2 => ?_) (fun hb2 => ?_) ?_
      · refine ap_go kc_30_41 ?_
        refine ap_aload_n rfl ?_; refine ap_getR ow_30 rf_8_41 rfl rfl rfl ?_; refine ai_bipush (by decide) ?_; refine ap_iload_n rfl ?_; refine ai_imul ?_; refine ap_iload_n rfl ?_; refine ai_iadd ?_; refine ai_baload (n := 14641) rfl rfl (by decide) ?_ ?_; refine ap_istore rfl ?_; refine ap_aload_n rfl ?_; refine ap_getR ow_30 rf_8_41 rfl rfl rfl ?_; refine ai_bipush (by decide) ?_; refine ap_iload_n rfl ?_; refine ai_imul ?_; refine ap_iload_n rfl ?_; refine ai_iadd ?_; refine ap_iload_n rfl ?_; refine ai_bastore (n := 14641) rfl rfl (by decide) ?_ ?_ ?_; refine ap_iload rfl ?_; refine ap_iload_n rfl ?_
        refine ai_icne rfl rfl (fun hb3 => ?_) (fun hb3 => ?_) ?_
        · refine ap_go kc_30_76 ?_
          refine ai_iconst ?_; refine ap_nil ?_
          refine ap_go kc_30_77 ?_
          refine ap_iret rfl ?_
          (try simp only [bz, Decidable.not_not] at *); first | exact K1  (by omega) | exact K2  (by omega) | exact K3 (by omega) (by omega) | exact K4 (by omega) (by omega)
        · refine ap_go kc_30_72 ?_
          refine ai_iconst ?_; refine ap_goto rfl ?_
          refine ap_go kc_30_77 ?_
          refine ap_iret rfl ?_
          (try simp only [bz, Decidable.not_not] at *); first | exact K1  (by omega) | exact K2  (by omega) | exact K3 (by omega) (by omega) | exact K4 (by omega) (by omega)
        all_goals (first | omega | exact ⟨h7 _, h6 _⟩ | (have q := h8 (121 * s + t).toNat; omega) | (simp only [bz, Decidable.not_not] at *; omega) | (split <;> omega))
      · refine ap_go kc_30_38 ?_
        refine ai_bipush (by decide) ?_; refine ap_iret rfl ?_
        (try simp only [bz, Decidable.not_not] at *); first | exact K1  (by omega) | exact K2  (by omega) | exact K3 (by omega) (by omega) | exact K4 (by omega) (by omega)
      all_goals (first | omega | exact ⟨h7 _, h6 _⟩ | (have q := h8 (121 * s + t).toNat; omega) | (simp only [bz, Decidable.not_not] at *; omega) | (split <;> omega))
    · refine ap_go kc_30_21 ?_
      refine ai_iconst ?_; refine ap_iret rfl ?_
      (try simp only [bz, Decidable.not_not] at *); first | exact K1  (by omega) | exact K2  (by omega) | exact K3 (by omega) (by omega) | exact K4 (by omega) (by omega)
    all_goals (first | omega | exact ⟨h7 _, h6 _⟩ | (have q := h8 (121 * s + t).toNat; omega) | (simp only [bz, Decidable.not_not] at *; omega) | (split <;> omega))
  all_goals (first | omega | exact ⟨h7 _, h6 _⟩ | (have q := h8 (121 * s + t).toNat; omega) | (simp only [bz, Decidable.not_not] at *; omega) | (split <;> omega))

theorem lp_31 {d L : Nat} {sw : Bool} {f g : Nat → Nat → Int} {Q : Option Value → am_H → Prop} (hc : 0 ≤ f 31 1 ∧ f 31 1 ≤ 60) (hr : ∀ n, lR (g 34 n)) (K : Q (some (.int (iZ (cZ (fun n => decide (0 < g 34 n)) (f 31 1).toNat)))) (53, sh_lt L, iH f, jH g, sh_rt sw)) : ∀ (m k : Nat) (c i : Int), (f 31 1).toNat = k + m → c = cZ (fun n => decide (0 < g 34 n)) k → i = k + 1 → am_Wp (am_call d) 31 Q 45 [some (.ref 31), none, none, none, some (.int (iZ c)), some (.int (iZ i))] [] (53, sh_lt L, iH f, jH g, sh_rt sw) (0, 0) := by
  intro m
  induction m with
  | zero =>
    intro k c i hk ec ei
    have hb := cZ_in (fun n => decide (0 < g 34 n)) k
    refine ap_go kc_31_45 ?_
    refine ap_iload rfl ?_; refine ap_aload_n rfl ?_; refine ai_getI ow_31 rf_8_85 rfl rfl ?_
    refine ai_icgt rfl rfl (fun hc0 => ?_) (fun hc0 => ?_) ?_
    · refine ap_go kc_31_83 ?_
      refine ap_iload rfl ?_; refine ap_iret rfl ?_
      rw [hk] at K; rw [ec]; exact K
    · exfalso; omega
    all_goals (omega)
  | succ m ih =>
    intro k c i hk ec ei
    have hb := cZ_in (fun n => decide (0 < g 34 n)) k
    have ei' : i.toNat = k + 1 := by omega
    refine ap_go kc_31_45 ?_
    refine ap_iload rfl ?_; refine ap_aload_n rfl ?_; refine ai_getI ow_31 rf_8_85 rfl rfl ?_
    refine ai_icgt rfl rfl (fun hc0 => ?_) (fun hc0 => ?_) ?_
    · exfalso; omega
    · refine ap_go kc_31_54 ?_
      refine ap_aload_n rfl ?_; refine ap_getR ow_31 rf_8_16 rfl rfl rfl ?_; refine ap_iload rfl ?_; refine ai_laload (n := 61) rfl rfl (by decide) ?_ ?_; refine ai_lconst 0 rfl ?_
      refine ai_lcle rfl rfl (fun hc1 => ?_) (fun hc1 => ?_) ?_
      · refine ap_go kc_31_73 ?_
        refine ap_iload rfl ?_; refine ap_nil ?_
        refine ap_go kc_31_75 ?_
        refine ap_istore rfl ?_; refine ai_iinc rfl rfl ?_; refine ap_goto rfl ?_
        exact ih (k + 1) _ _ (by omega) (by rw [ei'] at hc1; simp only [cZ, decide_eq_true_eq]; split <;> omega) (by omega)
      · refine ap_go kc_31_66 ?_
        refine ap_iload rfl ?_; refine ai_iconst ?_; refine ai_iadd ?_; refine ap_goto rfl ?_
        refine ap_go kc_31_75 ?_
        refine ap_istore rfl ?_; refine ai_iinc rfl rfl ?_; refine ap_goto rfl ?_
        exact ih (k + 1) _ _ (by omega) (by rw [ei'] at hc1; simp only [cZ, decide_eq_true_eq]; split <;> omega) (by omega)
      all_goals (first | omega | (have := hr i.toNat; omega))
    all_goals (first | omega | (have := hr i.toNat; omega))
theorem lp_32 {d L : Nat} {sw : Bool} {f g : Nat → Nat → Int} {Q : Option Value → am_H → Prop} (hc : 0 ≤ f 31 5 ∧ f 31 5 ≤ 120) (hp : lR (g 31 14)) (hr : ∀ n, lR (g 41 n)) (K : Q (some (.int (iZ (cZ (fun n => decide (g 31 14 < g 41 n)) (f 31 5).toNat)))) (53, sh_lt L, iH f, jH g, sh_rt sw)) : ∀ (m k : Nat) (c i : Int), (f 31 5).toNat = k + m → c = cZ (fun n => decide (g 31 14 < g 41 n)) k → i = k + 1 → am_Wp (am_call d) 32 Q 60 [some (.ref 31), none, none, none, none, none, some (.int (iZ c)), some (.int (iZ i))] [] (53, sh_lt L, iH f, jH g, sh_rt sw) (0, 0) := by
  intro m
  induction m with
  | zero =>
    intro k c i hk ec ei
    have hb := cZ_in (fun n => decide (g 31 14 < g 41 n)) k
    refine ap_go kc_32_60 ?_
    refine ap_iload rfl ?_; refine ap_aload_n rfl ?_; refine ai_getI ow_32 rf_8_88 rfl rfl ?_
    refine ai_icgt rfl rfl (fun hc0 => ?_) (fun hc0 => ?_) ?_
    · refine ap_go kc_32_101 ?_
      refine ap_iload rfl ?_; refine ap_iret rfl ?_
      rw [hk] at K; rw [ec]; exact K
    · exfalso; omega
    all_goals (omega)
  | succ m ih =>
    intro k c i hk ec ei
    have hb := cZ_in (fun n => decide (g 31 14 < g 41 n)) k
    have ei' : i.toNat = k + 1 := by omega
    refine ap_go kc_32_60 ?_
    refine ap_iload rfl ?_; refine ap_aload_n rfl ?_; refine ai_getI ow_32 rf_8_88 rfl rfl ?_
    refine ai_icgt rfl rfl (fun hc0 => ?_) (fun hc0 => ?_) ?_
    · exfalso; omega
    · refine ap_go kc_32_69 ?_
      refine ap_aload_n rfl ?_; refine ap_getR ow_32 rf_8_38 rfl rfl rfl ?_; refine ap_iload rfl ?_; refine ai_laload (n := 121) rfl rfl (by decide) ?_ ?_; refine ap_aload_n rfl ?_; refine ai_getJ ow_32 rf_8_110 rfl rfl ?_
      refine ai_lcle rfl rfl (fun hc1 => ?_) (fun hc1 => ?_) ?_
      · refine ap_go kc_32_91 ?_
        refine ap_iload rfl ?_; refine ap_nil ?_
        refine ap_go kc_32_93 ?_
        refine ap_istore rfl ?_; refine ai_iinc rfl rfl ?_; refine ap_goto rfl ?_
        exact ih (k + 1) _ _ (by omega) (by rw [ei'] at hc1; simp only [cZ, decide_eq_true_eq]; split <;> omega) (by omega)
      · refine ap_go kc_32_84 ?_
        refine ap_iload rfl ?_; refine ai_iconst ?_; refine ai_iadd ?_; refine ap_goto rfl ?_
        refine ap_go kc_32_93 ?_
        refine ap_istore rfl ?_; refine ai_iinc rfl rfl ?_; refine ap_goto rfl ?_
        exact ih (k + 1) _ _ (by omega) (by rw [ei'] at hc1; simp only [cZ, decide_eq_true_eq]; split <;> omega) (by omega)
      all_goals (first | omega | (have := hr i.toNat; omega))
    all_goals (first | omega | (have := hr i.toNat; omega))

theorem sp_31 {d L : Nat} {sw : Bool} {f g : Nat → Nat → Int} {Q : Option Value → am_H → Prop} {f1 : Nat → Nat → Int} {n p : Int} (hf : am_up f 31 0 0 = f1) (K1 : ¬ (1 ≤ n ∧ n ≤ f1 31 1) → Q (some (.int (iZ (-1)))) (53, sh_lt L, iH f1, jH g, sh_rt sw)) (K2 : (1 ≤ n ∧ n ≤ f1 31 1) ∧ ¬ (0 ≤ p ∧ p ≤ 1000000) → Q (some (.int (iZ (-2)))) (53, sh_lt L, iH f1, jH g, sh_rt sw)) (K3 : (1 ≤ n ∧ n ≤ f1 31 1) ∧ (0 ≤ p ∧ p ≤ 1000000) → Q (some (.int (iZ (cZ (fun k => decide (0 < am_up g 34 n.toNat p 34 k)) (f1 31 1).toNat)))) (53, sh_lt L, iH f1, jH (am_up g 34 n.toNat p), sh_rt sw)) (hn : iR n) (hp : lR p) (hc : 0 ≤ f1 31 1 ∧ f1 31 1 ≤ 60) (hr : ∀ k, lR (g 34 k)) : am_call (d + 2) 31 [.ref 31, .int (iZ n), .long (lZ p)] (53, sh_lt L, iH f, jH g, sh_rt sw) Q := by
  refine ap_call (by decide) (Nat.le_of_ble_eq_true rfl) rfl ?_
  refine ap_go kc_31_0 ?_
  refine ap_aload_n rfl ?_; refine ai_iconst ?_; refine ai_putI ow_31 rf_8_82 rfl rfl rfl ?_
  rw [hf]
  refine ap_aload_n rfl ?_; refine ap_iload_n rfl ?_; refine ap_callv0 ow_31 rm_8_95 na_26 mc_26 ms_26 rfl rfl (Nat.le_of_ble_eq_true rfl) (Nat.le_of_ble_eq_true rfl) (Or.inr rfl) (Nat.zero_le _) (Nat.zero_le _) ?_; refine sp_26 ?_ ?_ ?_; dsimp only [Option.toList_some, Option.toList_none, List.cons_append, List.nil_append]
  refine ai_ifeq rfl rfl (fun hb0 => ?_) (fun hb0 => ?_) ?_
  · refine ap_go kc_31_15 ?_
    refine ap_lload_n rfl ?_; refine ai_lconst 0 rfl ?_
    refine ai_lclt rfl rfl (fun hb1 => ?_) (fun hb1 => ?_) ?_
    · refine ap_go kc_31_29 ?_
      refine ai_bipush (by decide) ?_; refine ap_iret rfl ?_
      (try simp only [bz, Decidable.not_not] at *); first | exact K1  (by omega) | exact K2  (by omega) | exact K3  (by omega)
    · refine ap_go kc_31_21 ?_
      refine ap_lload_n rfl ?_; refine ai_ldc2 (1000000) ow_31 kl_8_108 rfl ?_
      refine ai_lcle rfl rfl (fun hb2 => ?_) (fun hb2 => ?_) ?_
      · refine ap_go kc_31_32 ?_
        refine ap_aload_n rfl ?_; refine ap_getR ow_31 rf_8_16 rfl rfl rfl ?_; refine ap_iload_n rfl ?_; refine ap_lload_n rfl ?_; refine ai_lastore (n := 61) rfl rfl (by decide) ?_ ?_; refine ai_iconst ?_; refine ap_istore rfl ?_; refine ai_iconst ?_; refine ap_istore rfl ?_; refine ap_nil ?_
        · (try simp only [bz, Decidable.not_not] at *); exact am_weak (ls := [some (.ref 31), none, none, none, some (.int (iZ 0)), some (.int (iZ 1))]) (by first | exact am_le_0 | (repeat (first | exact am_le_0 | refine am_le_n ?_ | refine am_le_s ?_))) (lp_31 hc (fun k => by simp only [am_up]; split; omega; exact hr k) (K3 (by omega)) (f1 31 1).toNat 0 0 1 (by omega) rfl rfl)
        all_goals (first | omega | (simp only [bz, Decidable.not_not] at *; omega) | (split <;> omega))
      · refine ap_go kc_31_29 ?_
        refine ai_bipush (by decide) ?_; refine ap_iret rfl ?_
        (try simp only [bz, Decidable.not_not] at *); first | exact K1  (by omega) | exact K2  (by omega) | exact K3  (by omega)
      all_goals (first | omega | (simp only [bz, Decidable.not_not] at *; omega) | (split <;> omega))
    all_goals (first | omega | (simp only [bz, Decidable.not_not] at *; omega) | (split <;> omega))
  · refine ap_go kc_31_13 ?_
    refine ai_iconst ?_; refine ap_iret rfl ?_
    (try simp only [bz, Decidable.not_not] at *); first | exact K1  (by omega) | exact K2  (by omega) | exact K3  (by omega)
  all_goals (first | omega | (simp only [bz, Decidable.not_not] at *; omega) | (split <;> omega))

theorem sp_32 {d L : Nat} {sw : Bool} {f g : Nat → Nat → Int} {Q : Option Value → am_H → Prop} {f1 : Nat → Nat → Int} {s v w : Int} (hf : am_up f 31 0 0 = f1) (K1 : ¬ (1 ≤ s ∧ s ≤ f1 31 5) → Q (some (.int (iZ (-1)))) (53, sh_lt L, iH f1, jH g, sh_rt sw)) (K2 : (1 ≤ s ∧ s ≤ f1 31 5) ∧ ¬ (0 ≤ v ∧ v ≤ 1000 ∧ 0 ≤ w) → Q (some (.int (iZ (-2)))) (53, sh_lt L, iH f1, jH g, sh_rt sw)) (K3 : (1 ≤ s ∧ s ≤ f1 31 5) ∧ (0 ≤ v ∧ v ≤ 1000 ∧ 0 ≤ w) → Q (some (.int (iZ (cZ (fun k => decide (g 31 14 < am_up (am_up g 40 s.toNat v) 41 s.toNat w 41 k)) (f1 31 5).toNat)))) (53, sh_lt L, iH f1, jH (am_up (am_up g 40 s.toNat v) 41 s.toNat w), sh_rt sw)) (hs : iR s) (hv : lR v) (hw : lR w) (hc : 0 ≤ f1 31 5 ∧ f1 31 5 ≤ 120) (hp : lR (g 31 14)) (hr : ∀ k, lR (g 41 k)) : am_call (d + 2) 32 [.ref 31, .int (iZ s), .long (lZ v), .long (lZ w)] (53, sh_lt L, iH f, jH g, sh_rt sw) Q := by
  refine ap_call (by decide) (Nat.le_of_ble_eq_true rfl) rfl ?_
  refine ap_go kc_32_0 ?_
  refine ap_aload_n rfl ?_; refine ai_iconst ?_; refine ai_putI ow_32 rf_8_82 rfl rfl rfl ?_
  rw [hf]
  refine ap_aload_n rfl ?_; refine ap_iload_n rfl ?_; refine ap_callv0 ow_32 rm_8_105 na_27 mc_27 ms_27 rfl rfl (Nat.le_of_ble_eq_true rfl) (Nat.le_of_ble_eq_true rfl) (Or.inr rfl) (Nat.zero_le _) (Nat.zero_le _) ?_; refine sp_27 ?_ ?_ ?_; dsimp only [Option.toList_some, Option.toList_none, List.cons_append, List.nil_append]
  refine ai_ifeq rfl rfl (fun hb0 => ?_) (fun hb0 => ?_) ?_
  · refine ap_go kc_32_15 ?_
    refine ap_lload_n rfl ?_; refine ai_lconst 0 rfl ?_
    refine ai_lclt rfl rfl (fun hb1 => ?_) (fun hb1 => ?_) ?_
    · refine ap_go kc_32_36 ?_
      refine ai_bipush (by decide) ?_; refine ap_iret rfl ?_
      (try simp only [bz, Decidable.not_not] at *); first | exact K1  (by omega) | exact K2  (by omega) | exact K3  (by omega)
    · refine ap_go kc_32_21 ?_
      refine ap_lload_n rfl ?_; refine ai_ldc2 (1000) ow_32 kl_8_101 rfl ?_
      refine ai_lcgt rfl rfl (fun hb2 => ?_) (fun hb2 => ?_) ?_
      · refine ap_go kc_32_36 ?_
        refine ai_bipush (by decide) ?_; refine ap_iret rfl ?_
        (try simp only [bz, Decidable.not_not] at *); first | exact K1  (by omega) | exact K2  (by omega) | exact K3  (by omega)
      · refine ap_go kc_32_29 ?_
        refine ap_lload rfl ?_; refine ai_lconst 0 rfl ?_
        refine ai_lcge rfl rfl (fun hb3 => ?_) (fun hb3 => ?_) ?_
        · refine ap_go kc_32_39 ?_
          refine ap_aload_n rfl ?_; refine ap_getR ow_32 rf_8_35 rfl rfl rfl ?_; refine ap_iload_n rfl ?_; refine ap_lload_n rfl ?_; refine ai_lastore (n := 121) rfl rfl (by decide) ?_ ?_; refine ap_aload_n rfl ?_; refine ap_getR ow_32 rf_8_38 rfl rfl rfl ?_; refine ap_iload_n rfl ?_; refine ap_lload rfl ?_; refine ai_lastore (n := 121) rfl rfl (by decide) ?_ ?_; refine ai_iconst ?_; refine ap_istore rfl ?_; refine ai_iconst ?_; refine ap_istore rfl ?_; refine ap_nil ?_
          · (try simp only [bz, Decidable.not_not] at *); exact am_weak (ls := [some (.ref 31), none, none, none, none, none, some (.int (iZ 0)), some (.int (iZ 1))]) (by first | exact am_le_0 | (repeat (first | exact am_le_0 | refine am_le_n ?_ | refine am_le_s ?_))) (lp_32 (g := am_up (am_up g 40 s.toNat v) 41 s.toNat w) hc hp (fun k => by simp only [am_up]; split; omega; split; omega; exact hr k) (K3 (by omega)) (f1 31 5).toNat 0 0 1 (by omega) rfl rfl)
          all_goals (first | omega | (simp only [bz, Decidable.not_not] at *; omega) | (split <;> omega))
        · refine ap_go kc_32_36 ?_
          refine ai_bipush (by decide) ?_; refine ap_iret rfl ?_
          (try simp only [bz, Decidable.not_not] at *); first | exact K1  (by omega) | exact K2  (by omega) | exact K3  (by omega)
        all_goals (first | omega | (simp only [bz, Decidable.not_not] at *; omega) | (split <;> omega))
      all_goals (first | omega | (simp only [bz, Decidable.not_not] at *; omega) | (split <;> omega))
    all_goals (first | omega | (simp only [bz, Decidable.not_not] at *; omega) | (split <;> omega))
  · refine ap_go kc_32_13 ?_
    refine ai_iconst ?_; refine ap_iret rfl ?_
    (try simp only [bz, Decidable.not_not] at *); first | exact K1  (by omega) | exact K2  (by omega) | exact K3  (by omega)
  all_goals (first | omega | (simp only [bz, Decidable.not_not] at *; omega) | (split <;> omega))

theorem sp_50 {d L : Nat} {sw : Bool} {f g : Nat → Nat → Int} {Q : Option Value → am_H → Prop} {f1 : Nat → Nat → Int} {i : Int} (hf : am_up f 31 0 0 = f1) (K1 : Q (some (.int (iZ (if 0 ≤ i ∧ i < f1 31 23 then f1 47 i.toNat else 0)))) (53, sh_lt L, iH f1, jH g, sh_rt sw)) (hi : iR i) (hc : 0 ≤ f1 31 23 ∧ f1 31 23 ≤ 2600) : am_call (d + 1) 50 [.ref 31, .int (iZ i)] (53, sh_lt L, iH f, jH g, sh_rt sw) Q := by
  refine ap_call (by decide) (Nat.le_of_ble_eq_true rfl) rfl ?_
  refine ap_go kc_50_0 ?_
  refine ap_aload_n rfl ?_; refine ai_iconst ?_; refine ai_putI ow_50 rf_8_82 rfl rfl rfl ?_
  rw [hf]
  refine ap_iload_n rfl ?_
  refine ai_iflt rfl rfl (fun hb0 => ?_) (fun hb0 => ?_) ?_
  · refine ap_go kc_50_17 ?_
    refine ai_iconst ?_; refine ap_goto rfl ?_
    refine ap_go kc_50_27 ?_
    refine ap_iret rfl ?_
    (try simp only [bz, Decidable.not_not] at *); first | (rw [if_pos (by omega)] at K1; exact K1) | (rw [if_neg (by omega)] at K1; exact K1) | first | exact K1
  · refine ap_go kc_50_9 ?_
    refine ap_iload_n rfl ?_; refine ap_aload_n rfl ?_; refine ai_getI ow_50 rf_8_173 rfl rfl ?_
    refine ai_iclt rfl rfl (fun hb1 => ?_) (fun hb1 => ?_) ?_
    · refine ap_go kc_50_21 ?_
      refine ap_aload_n rfl ?_; refine ap_getR ow_50 rf_8_61 rfl rfl rfl ?_; refine ap_iload_n rfl ?_; refine ai_iaload (n := 2600) rfl rfl (by decide) ?_ ?_; refine ap_nil ?_
      · refine ap_go kc_50_27 ?_
        refine ap_iret rfl ?_
        (try simp only [bz, Decidable.not_not] at *); first | (rw [if_pos (by omega)] at K1; exact K1) | (rw [if_neg (by omega)] at K1; exact K1) | first | exact K1
      all_goals (omega)
    · refine ap_go kc_50_17 ?_
      refine ai_iconst ?_; refine ap_goto rfl ?_
      refine ap_go kc_50_27 ?_
      refine ap_iret rfl ?_
      (try simp only [bz, Decidable.not_not] at *); first | (rw [if_pos (by omega)] at K1; exact K1) | (rw [if_neg (by omega)] at K1; exact K1) | first | exact K1
    all_goals (omega)
  all_goals (omega)

theorem sp_51 {d L : Nat} {sw : Bool} {f g : Nat → Nat → Int} {Q : Option Value → am_H → Prop} {f1 : Nat → Nat → Int}  (hf : am_up f 31 0 0 = f1) (K1 : Q (some (.long (lZ (g 31 25)))) (53, sh_lt L, iH f1, jH g, sh_rt sw))  : am_call (d + 1) 51 [.ref 31] (53, sh_lt L, iH f, jH g, sh_rt sw) Q := by
  refine ap_call (by decide) (Nat.le_of_ble_eq_true rfl) rfl ?_
  refine ap_go kc_51_0 ?_
  refine ap_aload_n rfl ?_; refine ai_iconst ?_; refine ai_putI ow_51 rf_8_82 rfl rfl rfl ?_
  rw [hf]
  refine ap_aload_n rfl ?_; refine ai_getJ ow_51 rf_8_66 rfl rfl ?_; refine ap_lret rfl ?_
  (try simp only [bz, Decidable.not_not] at *); first | exact K1

theorem sp_52 {d L : Nat} {sw : Bool} {f g : Nat → Nat → Int} {Q : Option Value → am_H → Prop} {f1 : Nat → Nat → Int}  (hf : am_up f 31 0 0 = f1) (K1 : Q (some (.int (iZ (f1 31 30)))) (53, sh_lt L, iH f1, jH g, sh_rt sw))  : am_call (d + 1) 52 [.ref 31] (53, sh_lt L, iH f, jH g, sh_rt sw) Q := by
  refine ap_call (by decide) (Nat.le_of_ble_eq_true rfl) rfl ?_
  refine ap_go kc_52_0 ?_
  refine ap_aload_n rfl ?_; refine ai_iconst ?_; refine ai_putI ow_52 rf_8_82 rfl rfl rfl ?_
  rw [hf]
  refine ap_aload_n rfl ?_; refine ai_getI ow_52 rf_8_154 rfl rfl ?_; refine ap_iret rfl ?_
  (try simp only [bz, Decidable.not_not] at *); first | exact K1

theorem sp_57 {d L : Nat} {sw : Bool} {f g : Nat → Nat → Int} {Q : Option Value → am_H → Prop} {n i : Int} (K : Q (some (.int (iZ (97 + letZ n i)))) (53, sh_lt L, iH f, jH g, sh_rt sw)) (hn : 0 ≤ n ∧ n < 2147483648) (hi : iR i) : am_call (d + 1) 57 [.int (iZ n), .int (iZ i)] (53, sh_lt L, iH f, jH g, sh_rt sw) Q := by
  refine ap_call (by decide) (Nat.le_of_ble_eq_true rfl) rfl ?_
  refine ap_go kc_57_0 ?_
  refine ai_bipush (by decide) ?_; refine ap_iload_n rfl ?_
  refine ai_ifne rfl rfl (fun hb0 => ?_) (fun hb0 => ?_) ?_
  · refine ap_go kc_57_14 ?_
    refine ap_iload_n rfl ?_; refine ai_iconst ?_
    refine ai_icne rfl rfl (fun hb1 => ?_) (fun hb1 => ?_) ?_
    · refine ap_go kc_57_29 ?_
      refine ap_iload_n rfl ?_; refine ai_bipush (by decide) ?_; refine ai_irem ?_ ?_; refine ap_nil ?_
      · refine ap_go kc_57_33 ?_
        refine ai_iadd ?_; refine ap_iret rfl ?_
        refine sq K ?_; unfold letZ; simp_all
      all_goals (omega)
    · refine ap_go kc_57_19 ?_
      refine ap_iload_n rfl ?_; refine ai_bipush (by decide) ?_; refine ai_idiv ?_ ?_; refine ai_bipush (by decide) ?_; refine ai_irem ?_ ?_; refine ap_goto rfl ?_
      · refine ap_go kc_57_33 ?_
        refine ai_iadd ?_; refine ap_iret rfl ?_
        refine sq K ?_; unfold letZ; simp_all
      all_goals (omega)
    all_goals (omega)
  · refine ap_go kc_57_6 ?_
    refine ap_iload_n rfl ?_; refine ai_sipush (by decide) ?_; refine ai_idiv ?_ ?_; refine ap_goto rfl ?_
    · refine ap_go kc_57_33 ?_
      refine ai_iadd ?_; refine ap_iret rfl ?_
      refine sq K ?_; unfold letZ; simp_all
    all_goals (omega)
  all_goals (omega)
end
section
/-! SNAPPING, in the class and in the reference -/
abbrev eX (f g : Nat → Nat → Int) (s : Nat) : Int := g 32 (f 36 s).toNat - g 32 (f 35 s).toNat
abbrev eY (f g : Nat → Nat → Int) (s : Nat) : Int := g 33 (f 36 s).toNat - g 33 (f 35 s).toNat
def sqmZ (px py dx dy qx qy : Int) : Int := if px * dx + py * dy ≤ 0 then px * px + py * py else if 0 ≤ qx * dx + qy * dy then qx * qx + qy * qy else (px * dy - py * dx) * (px * dy - py * dx) / (dx * dx + dy * dy)
/-- the nearest street so far, and its square: as the class, as the reference goes -/
def snC (fit : Nat → Bool) (sq : Nat → Int) : Nat → Int × Int
  | 0 => (0, 2501)
  | k + 1 => if fit (k + 1) = true ∧ sq (k + 1) < (snC fit sq k).2 then ((k + 1 : Nat), sq (k + 1)) else snC fit sq k
def snM (fit : Nat → Bool) (sq : Nat → Int) : Nat → Int × Int
  | 0 => (0, 0)
  | k + 1 => if (if fit (k + 1) = true then sq (k + 1) else 2501) ≤ 2500 ∧ ((snM fit sq k).1 = 0 ∨ (if fit (k + 1) = true then sq (k + 1) else 2501) < (snM fit sq k).2) then ((k + 1 : Nat), if fit (k + 1) = true then sq (k + 1) else 2501) else snM fit sq k
theorem sn_same {fit fit' : Nat → Bool} {sq sq' : Nat → Int} : ∀ n : Nat, (∀ k, 1 ≤ k → k ≤ n → fit k = fit' k ∧ sq k = sq' k) → (snC fit sq n).1 = (snM fit' sq' n).1 ∧ ((snM fit' sq' n).1 = 0 → (snC fit sq n).2 = 2501) ∧ (¬ (snM fit' sq' n).1 = 0 → (snC fit sq n).2 = (snM fit' sq' n).2 ∧ (snC fit sq n).2 ≤ 2500)
  | 0, _ => ⟨rfl, fun _ => rfl, fun h => absurd rfl h⟩
  | n + 1, h => by
    obtain ⟨h1, h2, h3⟩ := sn_same n (fun k a b => h k a (by omega))
    obtain ⟨e1, e2⟩ := h (n + 1) (by omega) (Nat.le_refl _)
    simp only [snC, snM, e1, e2]
    cases hq : fit' (n + 1) with
    | false =>
      simp only [Bool.false_eq_true, false_and, if_false]
      rw [if_neg (by omega)]
      exact ⟨h1, h2, h3⟩
    | true =>
      simp only [true_and, if_true]
      by_cases h0 : (snM fit' sq' n).1 = 0
      · have h2 := h2 h0
        by_cases hs : sq' (n + 1) < (snC fit sq n).2
        · rw [if_pos hs, if_pos (by omega)]
          exact ⟨rfl, fun z => by simp at z; omega, fun _ => ⟨rfl, by simp; omega⟩⟩
        · rw [if_neg hs, if_neg (by omega)]
          exact ⟨h1, fun _ => h2, h3⟩
      · have h3 := h3 h0
        by_cases hs : sq' (n + 1) < (snC fit sq n).2
        · rw [if_pos hs, if_pos (by omega)]
          exact ⟨rfl, fun z => by simp at z; omega, fun _ => ⟨rfl, by simp; omega⟩⟩
        · rw [if_neg hs, if_neg (by omega)]
          exact ⟨h1, h2, fun _ => h3⟩
theorem snC_in {fit : Nat → Bool} {sq : Nat → Int} (hs : ∀ k, lR (sq k)) : ∀ n : Nat, (0 ≤ (snC fit sq n).1 ∧ (snC fit sq n).1 ≤ n) ∧ lR (snC fit sq n).2
  | 0 => ⟨⟨Int.le_refl 0, Int.le_refl 0⟩, ⟨by simp [snC], by simp [snC]⟩⟩
  | n + 1 => by
    have := snC_in hs (fit := fit) n
    simp only [snC]
    split
    · exact ⟨⟨by simp; omega, by simp⟩, hs _⟩
    · exact ⟨⟨this.1.1, by omega⟩, this.2⟩
theorem snM_in {fit : Nat → Bool} {sq : Nat → Int} (hs : ∀ k, lR (sq k)) : ∀ n : Nat, (0 ≤ (snM fit sq n).1 ∧ (snM fit sq n).1 ≤ n) ∧ lR (snM fit sq n).2
  | 0 => ⟨⟨Int.le_refl 0, Int.le_refl 0⟩, ⟨by simp [snM], by simp [snM]⟩⟩
  | n + 1 => by
    have := snM_in hs (fit := fit) n
    have hq := hs (n + 1)
    simp only [snM]
    generalize hd : (if fit (n + 1) = true then sq (n + 1) else 2501) = dd
    have hdd : lR dd := by
      rw [← hd]
      split
      · exact hq
      · omega
    split
    · exact ⟨⟨by simp; omega, by simp⟩, hdd⟩
    · exact ⟨⟨this.1.1, by omega⟩, this.2⟩

theorem sp_54 {d L : Nat} {sw : Bool} {f g : Nat → Nat → Int} {Q : Option Value → am_H → Prop} {x y : Int} (K : Q (some (.int (iZ (octZ x y)))) (53, sh_lt L, iH f, jH g, sh_rt sw)) (hx : -100000 ≤ x ∧ x ≤ 100000) (hy : -100000 ≤ y ∧ y ≤ 100000) : am_call (d + 1) 54 [.long (lZ x), .long (lZ y)] (53, sh_lt L, iH f, jH g, sh_rt sw) Q := by
  refine ap_call (by decide) (Nat.le_of_ble_eq_true rfl) rfl ?_
  refine ap_go kc_54_0 ?_
  refine ap_lload_n rfl ?_; refine ai_lconst 0 rfl ?_
  refine ai_lcne rfl rfl (fun hb0 => ?_) (fun hb0 => ?_) ?_
  · refine ap_go kc_54_14 ?_
    refine ap_lload_n rfl ?_; refine ai_lconst 0 rfl ?_
    refine ai_lcle rfl rfl (fun hb1 => ?_) (fun hb1 => ?_) ?_
    · refine ap_go kc_54_38 ?_
      refine ap_lload_n rfl ?_; refine ai_lconst 0 rfl ?_
      refine ai_lcgt rfl rfl (fun hb2 => ?_) (fun hb2 => ?_) ?_
      · refine ap_go kc_54_63 ?_
        refine ap_lload_n rfl ?_; refine ai_lconst 0 rfl ?_
        refine ai_lcge rfl rfl (fun hb3 => ?_) (fun hb3 => ?_) ?_
        · refine ap_go kc_54_83 ?_
          refine ap_lload_n rfl ?_; refine ap_lload_n rfl ?_; refine ai_lneg ?_
          refine ai_lcge rfl rfl (fun hb4 => ?_) (fun hb4 => ?_) ?_
          · refine ap_go kc_54_95 ?_
            refine ai_bipush (by decide) ?_; refine ap_nil ?_
            refine ap_go kc_54_97 ?_
            refine ap_iret rfl ?_
            refine sq K ?_; unfold octZ; (repeat' split) <;> omega
          · refine ap_go kc_54_90 ?_
            refine ai_bipush (by decide) ?_; refine ap_goto rfl ?_
            refine ap_go kc_54_97 ?_
            refine ap_iret rfl ?_
            refine sq K ?_; unfold octZ; (repeat' split) <;> omega
          all_goals (omega)
        · refine ap_go kc_54_69 ?_
          refine ap_lload_n rfl ?_; refine ai_lneg ?_; refine ap_lload_n rfl ?_; refine ai_lneg ?_
          refine ai_lcge rfl rfl (fun hb5 => ?_) (fun hb5 => ?_) ?_
          · refine ap_go kc_54_81 ?_
            refine ai_iconst ?_; refine ap_nil ?_
            refine ap_go kc_54_82 ?_
            refine ap_iret rfl ?_
            refine sq K ?_; unfold octZ; (repeat' split) <;> omega
          · refine ap_go kc_54_77 ?_
            refine ai_iconst ?_; refine ap_goto rfl ?_
            refine ap_go kc_54_82 ?_
            refine ap_iret rfl ?_
            refine sq K ?_; unfold octZ; (repeat' split) <;> omega
          all_goals (omega)
        all_goals (omega)
      · refine ap_go kc_54_44 ?_
        refine ap_lload_n rfl ?_; refine ai_lconst 0 rfl ?_
        refine ai_lcle rfl rfl (fun hb6 => ?_) (fun hb6 => ?_) ?_
        · refine ap_go kc_54_63 ?_
          refine ap_lload_n rfl ?_; refine ai_lconst 0 rfl ?_
          refine ai_lcge rfl rfl (fun hb7 => ?_) (fun hb7 => ?_) ?_
          · refine ap_go kc_54_83 ?_
            refine ap_lload_n rfl ?_; refine ap_lload_n rfl ?_; refine ai_lneg ?_
            refine ai_lcge rfl rfl (fun hb8 => ?_) (fun hb8 => ?_) ?_
            · refine ap_go kc_54_95 ?_
              refine ai_bipush (by decide) ?_; refine ap_nil ?_
              refine ap_go kc_54_97 ?_
              refine ap_iret rfl ?_
              refine sq K ?_; unfold octZ; (repeat' split) <;> omega
            · refine ap_go kc_54_90 ?_
              refine ai_bipush (by decide) ?_; refine ap_goto rfl ?_
              refine ap_go kc_54_97 ?_
              refine ap_iret rfl ?_
              refine sq K ?_; unfold octZ; (repeat' split) <;> omega
            all_goals (omega)
          · refine ap_go kc_54_69 ?_
            refine ap_lload_n rfl ?_; refine ai_lneg ?_; refine ap_lload_n rfl ?_; refine ai_lneg ?_
            refine ai_lcge rfl rfl (fun hb9 => ?_) (fun hb9 => ?_) ?_
            · refine ap_go kc_54_81 ?_
              refine ai_iconst ?_; refine ap_nil ?_
              refine ap_go kc_54_82 ?_
              refine ap_iret rfl ?_
              refine sq K ?_; unfold octZ; (repeat' split) <;> omega
            · refine ap_go kc_54_77 ?_
              refine ai_iconst ?_; refine ap_goto rfl ?_
              refine ap_go kc_54_82 ?_
              refine ap_iret rfl ?_
              refine sq K ?_; unfold octZ; (repeat' split) <;> omega
            all_goals (omega)
          all_goals (omega)
        · refine ap_go kc_54_50 ?_
          refine ap_lload_n rfl ?_; refine ai_lneg ?_; refine ap_lload_n rfl ?_
          refine ai_lcge rfl rfl (fun hb10 => ?_) (fun hb10 => ?_) ?_
          · refine ap_go kc_54_61 ?_
            refine ai_iconst ?_; refine ap_nil ?_
            refine ap_go kc_54_62 ?_
            refine ap_iret rfl ?_
            refine sq K ?_; unfold octZ; (repeat' split) <;> omega
          · refine ap_go kc_54_57 ?_
            refine ai_iconst ?_; refine ap_goto rfl ?_
            refine ap_go kc_54_62 ?_
            refine ap_iret rfl ?_
            refine sq K ?_; unfold octZ; (repeat' split) <;> omega
          all_goals (omega)
        all_goals (omega)
      all_goals (omega)
    · refine ap_go kc_54_20 ?_
      refine ap_lload_n rfl ?_; refine ai_lconst 0 rfl ?_
      refine ai_lclt rfl rfl (fun hb11 => ?_) (fun hb11 => ?_) ?_
      · refine ap_go kc_54_38 ?_
        refine ap_lload_n rfl ?_; refine ai_lconst 0 rfl ?_
        refine ai_lcgt rfl rfl (fun hb12 => ?_) (fun hb12 => ?_) ?_
        · refine ap_go kc_54_63 ?_
          refine ap_lload_n rfl ?_; refine ai_lconst 0 rfl ?_
          refine ai_lcge rfl rfl (fun hb13 => ?_) (fun hb13 => ?_) ?_
          · refine ap_go kc_54_83 ?_
            refine ap_lload_n rfl ?_; refine ap_lload_n rfl ?_; refine ai_lneg ?_
            refine ai_lcge rfl rfl (fun hb14 => ?_) (fun hb14 => ?_) ?_
            · refine ap_go kc_54_95 ?_
              refine ai_bipush (by decide) ?_; refine ap_nil ?_
              refine ap_go kc_54_97 ?_
              refine ap_iret rfl ?_
              refine sq K ?_; unfold octZ; (repeat' split) <;> omega
            · refine ap_go kc_54_90 ?_
              refine ai_bipush (by decide) ?_; refine ap_goto rfl ?_
              refine ap_go kc_54_97 ?_
              refine ap_iret rfl ?_
              refine sq K ?_; unfold octZ; (repeat' split) <;> omega
            all_goals (omega)
          · refine ap_go kc_54_69 ?_
            refine ap_lload_n rfl ?_; refine ai_lneg ?_; refine ap_lload_n rfl ?_; refine ai_lneg ?_
            refine ai_lcge rfl rfl (fun hb15 => ?_) (fun hb15 => ?_) ?_
            · refine ap_go kc_54_81 ?_
              refine ai_iconst ?_; refine ap_nil ?_
              refine ap_go kc_54_82 ?_
              refine ap_iret rfl ?_
              refine sq K ?_; unfold octZ; (repeat' split) <;> omega
            · refine ap_go kc_54_77 ?_
              refine ai_iconst ?_; refine ap_goto rfl ?_
              refine ap_go kc_54_82 ?_
              refine ap_iret rfl ?_
              refine sq K ?_; unfold octZ; (repeat' split) <;> omega
            all_goals (omega)
          all_goals (omega)
        · refine ap_go kc_54_44 ?_
          refine ap_lload_n rfl ?_; refine ai_lconst 0 rfl ?_
          refine ai_lcle rfl rfl (fun hb16 => ?_) (fun hb16 => ?_) ?_
          · refine ap_go kc_54_63 ?_
            refine ap_lload_n rfl ?_; refine ai_lconst 0 rfl ?_
            refine ai_lcge rfl rfl (fun hb17 => ?_) (fun hb17 => ?_) ?_
            · refine ap_go kc_54_83 ?_
              refine ap_lload_n rfl ?_; refine ap_lload_n rfl ?_; refine ai_lneg ?_
              refine ai_lcge rfl rfl (fun hb18 => ?_) (fun hb18 => ?_) ?_
              · refine ap_go kc_54_95 ?_
                refine ai_bipush (by decide) ?_; refine ap_nil ?_
                refine ap_go kc_54_97 ?_
                refine ap_iret rfl ?_
                refine sq K ?_; unfold octZ; (repeat' split) <;> omega
              · refine ap_go kc_54_90 ?_
                refine ai_bipush (by decide) ?_; refine ap_goto rfl ?_
                refine ap_go kc_54_97 ?_
                refine ap_iret rfl ?_
                refine sq K ?_; unfold octZ; (repeat' split) <;> omega
              all_goals (omega)
            · refine ap_go kc_54_69 ?_
              refine ap_lload_n rfl ?_; refine ai_lneg ?_; refine ap_lload_n rfl ?_; refine ai_lneg ?_
              refine ai_lcge rfl rfl (fun hb19 => ?_) (fun hb19 => ?_) ?_
              · refine ap_go kc_54_81 ?_
                refine ai_iconst ?_; refine ap_nil ?_
                refine ap_go kc_54_82 ?_
                refine ap_iret rfl ?_
                refine sq K ?_; unfold octZ; (repeat' split) <;> omega
              · refine ap_go kc_54_77 ?_
                refine ai_iconst ?_; refine ap_goto rfl ?_
                refine ap_go kc_54_82 ?_
                refine ap_iret rfl ?_
                refine sq K ?_; unfold octZ; (repeat' split) <;> omega
              all_goals (omega)
            all_goals (omega)
          · refine ap_go kc_54_50 ?_
            refine ap_lload_n rfl ?_; refine ai_lneg ?_; refine ap_lload_n rfl ?_
            refine ai_lcge rfl rfl (fun hb20 => ?_) (fun hb20 => ?_) ?_
            · refine ap_go kc_54_61 ?_
              refine ai_iconst ?_; refine ap_nil ?_
              refine ap_go kc_54_62 ?_
              refine ap_iret rfl ?_
              refine sq K ?_; unfold octZ; (repeat' split) <;> omega
            · refine ap_go kc_54_57 ?_
              refine ai_iconst ?_; refine ap_goto rfl ?_
              refine ap_go kc_54_62 ?_
              refine ap_iret rfl ?_
              refine sq K ?_; unfold octZ; (repeat' split) <;> omega
            all_goals (omega)
          all_goals (omega)
        all_goals (omega)
      · refine ap_go kc_54_26 ?_
        refine ap_lload_n rfl ?_; refine ap_lload_n rfl ?_
        refine ai_lcge rfl rfl (fun hb21 => ?_) (fun hb21 => ?_) ?_
        · refine ap_go kc_54_36 ?_
          refine ai_iconst ?_; refine ap_nil ?_
          refine ap_go kc_54_37 ?_
          refine ap_iret rfl ?_
          refine sq K ?_; unfold octZ; (repeat' split) <;> omega
        · refine ap_go kc_54_32 ?_
          refine ai_iconst ?_; refine ap_goto rfl ?_
          refine ap_go kc_54_37 ?_
          refine ap_iret rfl ?_
          refine sq K ?_; unfold octZ; (repeat' split) <;> omega
        all_goals (omega)
      all_goals (omega)
    all_goals (omega)
  · refine ap_go kc_54_6 ?_
    refine ap_lload_n rfl ?_; refine ai_lconst 0 rfl ?_
    refine ai_lcne rfl rfl (fun hb22 => ?_) (fun hb22 => ?_) ?_
    · refine ap_go kc_54_14 ?_
      refine ap_lload_n rfl ?_; refine ai_lconst 0 rfl ?_
      refine ai_lcle rfl rfl (fun hb23 => ?_) (fun hb23 => ?_) ?_
      · refine ap_go kc_54_38 ?_
        refine ap_lload_n rfl ?_; refine ai_lconst 0 rfl ?_
        refine ai_lcgt rfl rfl (fun hb24 => ?_) (fun hb24 => ?_) ?_
        · refine ap_go kc_54_63 ?_
          refine ap_lload_n rfl ?_; refine ai_lconst 0 rfl ?_
          refine ai_lcge rfl rfl (fun hb25 => ?_) (fun hb25 => ?_) ?_
          · refine ap_go kc_54_83 ?_
            refine ap_lload_n rfl ?_; refine ap_lload_n rfl ?_; refine ai_lneg ?_
            refine ai_lcge rfl rfl (fun hb26 => ?_) (fun hb26 => ?_) ?_
            · refine ap_go kc_54_95 ?_
              refine ai_bipush (by decide) ?_; refine ap_nil ?_
              refine ap_go kc_54_97 ?_
              refine ap_iret rfl ?_
              refine sq K ?_; unfold octZ; (repeat' split) <;> omega
            · refine ap_go kc_54_90 ?_
              refine ai_bipush (by decide) ?_; refine ap_goto rfl ?_
              refine ap_go kc_54_97 ?_
              refine ap_iret rfl ?_
              refine sq K ?_; unfold octZ; (repeat' split) <;> omega
            all_goals (omega)
          · refine ap_go kc_54_69 ?_
            refine ap_lload_n rfl ?_; refine ai_lneg ?_; refine ap_lload_n rfl ?_; refine ai_lneg ?_
            refine ai_lcge rfl rfl (fun hb27 => ?_) (fun hb27 => ?_) ?_
            · refine ap_go kc_54_81 ?_
              refine ai_iconst ?_; refine ap_nil ?_
              refine ap_go kc_54_82 ?_
              refine ap_iret rfl ?_
              refine sq K ?_; unfold octZ; (repeat' split) <;> omega
            · refine ap_go kc_54_77 ?_
              refine ai_iconst ?_; refine ap_goto rfl ?_
              refine ap_go kc_54_82 ?_
              refine ap_iret rfl ?_
              refine sq K ?_; unfold octZ; (repeat' split) <;> omega
            all_goals (omega)
          all_goals (omega)
        · refine ap_go kc_54_44 ?_
          refine ap_lload_n rfl ?_; refine ai_lconst 0 rfl ?_
          refine ai_lcle rfl rfl (fun hb28 => ?_) (fun hb28 => ?_) ?_
          · refine ap_go kc_54_63 ?_
            refine ap_lload_n rfl ?_; refine ai_lconst 0 rfl ?_
            refine ai_lcge rfl rfl (fun hb29 => ?_) (fun hb29 => ?_) ?_
            · refine ap_go kc_54_83 ?_
              refine ap_lload_n rfl ?_; refine ap_lload_n rfl ?_; refine ai_lneg ?_
              refine ai_lcge rfl rfl (fun hb30 => ?_) (fun hb30 => ?_) ?_
              · refine ap_go kc_54_95 ?_
                refine ai_bipush (by decide) ?_; refine ap_nil ?_
                refine ap_go kc_54_97 ?_
                refine ap_iret rfl ?_
                refine sq K ?_; unfold octZ; (repeat' split) <;> omega
              · refine ap_go kc_54_90 ?_
                refine ai_bipush (by decide) ?_; refine ap_goto rfl ?_
                refine ap_go kc_54_97 ?_
                refine ap_iret rfl ?_
                refine sq K ?_; unfold octZ; (repeat' split) <;> omega
              all_goals (omega)
            · refine ap_go kc_54_69 ?_
              refine ap_lload_n rfl ?_; refine ai_lneg ?_; refine ap_lload_n rfl ?_; refine ai_lneg ?_
              refine ai_lcge rfl rfl (fun hb31 => ?_) (fun hb31 => ?_) ?_
              · refine ap_go kc_54_81 ?_
                refine ai_iconst ?_; refine ap_nil ?_
                refine ap_go kc_54_82 ?_
                refine ap_iret rfl ?_
                refine sq K ?_; unfold octZ; (repeat' split) <;> omega
              · refine ap_go kc_54_77 ?_
                refine ai_iconst ?_; refine ap_goto rfl ?_
                refine ap_go kc_54_82 ?_
                refine ap_iret rfl ?_
                refine sq K ?_; unfold octZ; (repeat' split) <;> omega
              all_goals (omega)
            all_goals (omega)
          · refine ap_go kc_54_50 ?_
            refine ap_lload_n rfl ?_; refine ai_lneg ?_; refine ap_lload_n rfl ?_
            refine ai_lcge rfl rfl (fun hb32 => ?_) (fun hb32 => ?_) ?_
            · refine ap_go kc_54_61 ?_
              refine ai_iconst ?_; refine ap_nil ?_
              refine ap_go kc_54_62 ?_
              refine ap_iret rfl ?_
              refine sq K ?_; unfold octZ; (repeat' split) <;> omega
            · refine ap_go kc_54_57 ?_
              refine ai_iconst ?_; refine ap_goto rfl ?_
              refine ap_go kc_54_62 ?_
              refine ap_iret rfl ?_
              refine sq K ?_; unfold octZ; (repeat' split) <;> omega
            all_goals (omega)
          all_goals (omega)
        all_goals (omega)
      · refine ap_go kc_54_20 ?_
        refine ap_lload_n rfl ?_; refine ai_lconst 0 rfl ?_
        refine ai_lclt rfl rfl (fun hb33 => ?_) (fun hb33 => ?_) ?_
        · refine ap_go kc_54_38 ?_
          refine ap_lload_n rfl ?_; refine ai_lconst 0 rfl ?_
          refine ai_lcgt rfl rfl (fun hb34 => ?_) (fun hb34 => ?_) ?_
          · refine ap_go kc_54_63 ?_
            refine ap_lload_n rfl ?_; refine ai_lconst 0 rfl ?_
            refine ai_lcge rfl rfl (fun hb35 => ?_) (fun hb35 => ?_) ?_
            · refine ap_go kc_54_83 ?_
              refine ap_lload_n rfl ?_; refine ap_lload_n rfl ?_; refine ai_lneg ?_
              refine ai_lcge rfl rfl (fun hb36 => ?_) (fun hb36 => ?_) ?_
              · refine ap_go kc_54_95 ?_
                refine ai_bipush (by decide) ?_; refine ap_nil ?_
                refine ap_go kc_54_97 ?_
                refine ap_iret rfl ?_
                refine sq K ?_; unfold octZ; (repeat' split) <;> omega
              · refine ap_go kc_54_90 ?_
                refine ai_bipush (by decide) ?_; refine ap_goto rfl ?_
                refine ap_go kc_54_97 ?_
                refine ap_iret rfl ?_
                refine sq K ?_; unfold octZ; (repeat' split) <;> omega
              all_goals (omega)
            · refine ap_go kc_54_69 ?_
              refine ap_lload_n rfl ?_; refine ai_lneg ?_; refine ap_lload_n rfl ?_; refine ai_lneg ?_
              refine ai_lcge rfl rfl (fun hb37 => ?_) (fun hb37 => ?_) ?_
              · refine ap_go kc_54_81 ?_
                refine ai_iconst ?_; refine ap_nil ?_
                refine ap_go kc_54_82 ?_
                refine ap_iret rfl ?_
                refine sq K ?_; unfold octZ; (repeat' split) <;> omega
              · refine ap_go kc_54_77 ?_
                refine ai_iconst ?_; refine ap_goto rfl ?_
                refine ap_go kc_54_82 ?_
                refine ap_iret rfl ?_
                refine sq K ?_; unfold octZ; (repeat' split) <;> omega
              all_goals (omega)
            all_goals (omega)
          · refine ap_go kc_54_44 ?_
            refine ap_lload_n rfl ?_; refine ai_lconst 0 rfl ?_
            refine ai_lcle rfl rfl (fun hb38 => ?_) (fun hb38 => ?_) ?_
            · refine ap_go kc_54_63 ?_
              refine ap_lload_n rfl ?_; refine ai_lconst 0 rfl ?_
              refine ai_lcge rfl rfl (fun hb39 => ?_) (fun hb39 => ?_) ?_
              · refine ap_go kc_54_83 ?_
                refine ap_lload_n rfl ?_; refine ap_lload_n rfl ?_; refine ai_lneg ?_
                refine ai_lcge rfl rfl (fun hb40 => ?_) (fun hb40 => ?_) ?_
                · refine ap_go kc_54_95 ?_
                  refine ai_bipush (by decide) ?_; refine ap_nil ?_
                  refine ap_go kc_54_97 ?_
                  refine ap_iret rfl ?_
                  refine sq K ?_; unfold octZ; (repeat' split) <;> omega
                · refine ap_go kc_54_90 ?_
                  refine ai_bipush (by decide) ?_; refine ap_goto rfl ?_
                  refine ap_go kc_54_97 ?_
                  refine ap_iret rfl ?_
                  refine sq K ?_; unfold octZ; (repeat' split) <;> omega
                all_goals (omega)
              · refine ap_go kc_54_69 ?_
                refine ap_lload_n rfl ?_; refine ai_lneg ?_; refine ap_lload_n rfl ?_; refine ai_lneg ?_
                refine ai_lcge rfl rfl (fun hb41 => ?_) (fun hb41 => ?_) ?_
                · refine ap_go kc_54_81 ?_
                  refine ai_iconst ?_; refine ap_nil ?_
                  refine ap_go kc_54_82 ?_
                  refine ap_iret rfl ?_
                  refine sq K ?_; unfold octZ; (repeat' split) <;> omega
                · refine ap_go kc_54_77 ?_
                  refine ai_iconst ?_; refine ap_goto rfl ?_
                  refine ap_go kc_54_82 ?_
                  refine ap_iret rfl ?_
                  refine sq K ?_; unfold octZ; (repeat' split) <;> omega
                all_goals (omega)
              all_goals (omega)
            · refine ap_go kc_54_50 ?_
              refine ap_lload_n rfl ?_; refine ai_lneg ?_; refine ap_lload_n rfl ?_
              refine ai_lcge rfl rfl (fun hb42 => ?_) (fun hb42 => ?_) ?_
              · refine ap_go kc_54_61 ?_
                refine ai_iconst ?_; refine ap_nil ?_
                refine ap_go kc_54_62 ?_
                refine ap_iret rfl ?_
                refine sq K ?_; unfold octZ; (repeat' split) <;> omega
              · refine ap_go kc_54_57 ?_
                refine ai_iconst ?_; refine ap_goto rfl ?_
                refine ap_go kc_54_62 ?_
                refine ap_iret rfl ?_
                refine sq K ?_; unfold octZ; (repeat' split) <;> omega
              all_goals (omega)
            all_goals (omega)
          all_goals (omega)
        · refine ap_go kc_54_26 ?_
          refine ap_lload_n rfl ?_; refine ap_lload_n rfl ?_
          refine ai_lcge rfl rfl (fun hb43 => ?_) (fun hb43 => ?_) ?_
          · refine ap_go kc_54_36 ?_
            refine ai_iconst ?_; refine ap_nil ?_
            refine ap_go kc_54_37 ?_
            refine ap_iret rfl ?_
            refine sq K ?_; unfold octZ; (repeat' split) <;> omega
          · refine ap_go kc_54_32 ?_
            refine ai_iconst ?_; refine ap_goto rfl ?_
            refine ap_go kc_54_37 ?_
            refine ap_iret rfl ?_
            refine sq K ?_; unfold octZ; (repeat' split) <;> omega
          all_goals (omega)
        all_goals (omega)
      all_goals (omega)
    · refine ap_go kc_54_12 ?_
      refine ai_iconst ?_; refine ap_iret rfl ?_
      refine sq K ?_; unfold octZ; (repeat' split) <;> omega
    all_goals (omega)
  all_goals (omega)

theorem sp_55 {d L : Nat} {sw : Bool} {f g : Nat → Nat → Int} {Q : Option Value → am_H → Prop} {s a b : Int} (K : Q (some (.long (lZ (sqmZ (a - g 32 (f 35 s.toNat).toNat) (b - g 33 (f 35 s.toNat).toNat) (eX f g s.toNat) (eY f g s.toNat) (a - g 32 (f 36 s.toNat).toNat) (b - g 33 (f 36 s.toNat).toNat))))) (53, sh_lt L, iH f, jH g, sh_rt sw)) (hs : 0 ≤ s ∧ s < 121) (h6 : 0 ≤ f 35 s.toNat ∧ f 35 s.toNat < 61) (h7 : 0 ≤ f 36 s.toNat ∧ f 36 s.toNat < 61) (h1 : lR ((a - g 32 (f 35 s.toNat).toNat) * eX f g s.toNat + (b - g 33 (f 35 s.toNat).toNat) * eY f g s.toNat)) (h2 : lR ((a - g 32 (f 36 s.toNat).toNat) * eX f g s.toNat + (b - g 33 (f 36 s.toNat).toNat) * eY f g s.toNat)) (h3 : 0 ≤ ((a - g 32 (f 35 s.toNat).toNat) * eY f g s.toNat - (b - g 33 (f 35 s.toNat).toNat) * eX f g s.toNat) * ((a - g 32 (f 35 s.toNat).toNat) * eY f g s.toNat - (b - g 33 (f 35 s.toNat).toNat) * eX f g s.toNat) ∧ ((a - g 32 (f 35 s.toNat).toNat) * eY f g s.toNat - (b - g 33 (f 35 s.toNat).toNat) * eX f g s.toNat) * ((a - g 32 (f 35 s.toNat).toNat) * eY f g s.toNat - (b - g 33 (f 35 s.toNat).toNat) * eX f g s.toNat) < 9223372036854775808) (h4 : 0 ≤ eX f g s.toNat * eX f g s.toNat + eY f g s.toNat * eY f g s.toNat ∧ eX f g s.toNat * eX f g s.toNat + eY f g s.toNat * eY f g s.toNat < 9223372036854775808) (h5 : ¬ (a - g 32 (f 35 s.toNat).toNat) * eX f g s.toNat + (b - g 33 (f 35 s.toNat).toNat) * eY f g s.toNat ≤ 0 → 0 < eX f g s.toNat * eX f g s.toNat + eY f g s.toNat * eY f g s.toNat) : am_call (d + 1) 55 [.ref 31, .int (iZ s), .long (lZ a), .long (lZ b)] (53, sh_lt L, iH f, jH g, sh_rt sw) Q := by
  refine ap_call (by decide) (Nat.le_of_ble_eq_true rfl) rfl ?_
  refine ap_go kc_55_0 ?_
  refine ap_aload_n rfl ?_; refine ap_getR ow_55 rf_8_7 rfl rfl rfl ?_; refine ap_aload_n rfl ?_; refine ap_getR ow_55 rf_8_23 rfl rfl rfl ?_; refine ap_iload_n rfl ?_; refine ai_iaload (n := 121) rfl rfl (by decide) ?_ ?_; refine ai_laload (n := 61) rfl rfl (by decide) ?_ ?_; refine ap_aload_n rfl ?_; refine ap_getR ow_55 rf_8_7 rfl rfl rfl ?_; refine ap_aload_n rfl ?_; refine ap_getR ow_55 rf_8_19 rfl rfl rfl ?_; refine ap_iload_n rfl ?_; refine ai_iaload (n := 121) rfl rfl (by decide) ?_ ?_; refine ai_laload (n := 61) rfl rfl (by decide) ?_ ?_; refine ai_lsub ?_; refine ap_lstore rfl ?_; refine ap_aload_n rfl ?_; refine ap_getR ow_55 rf_8_13 rfl rfl rfl ?_; refine ap_aload_n rfl ?_; refine ap_getR ow_55 rf_8_23 rfl rfl rfl ?_; refine ap_iload_n rfl ?_; refine ai_iaload (n := 121) rfl rfl (by decide) ?_ ?_; refine ai_laload (n := 61) rfl rfl (by decide) ?_ ?_; refine ap_aload_n rfl ?_; refine ap_getR ow_55 rf_8_13 rfl rfl rfl ?_; refine ap_aload_n rfl ?_; refine ap_getR ow_55 rf_8_19 rfl rfl rfl ?_; refine ap_iload_n rfl ?_; refine ai_iaload (n := 121) rfl rfl (by decide) ?_ ?_; refine ai_laload (n := 61) rfl rfl (by decide) ?_ ?_; refine ai_lsub ?_; refine ap_lstore rfl ?_; refine ap_lload_n rfl ?_; refine ap_aload_n rfl ?_; refine ap_getR ow_55 rf_8_7 rfl rfl rfl ?_; refine ap_aload_n rfl ?_; refine ap_getR ow_55 rf_8_19 rfl rfl rfl ?_; refine ap_iload_n rfl ?_; refine ai_iaload (n := 121) rfl rfl (by decide) ?_ ?_; refine ai_laload (n := 61) rfl rfl (by decide) ?_ ?_; refine ai_lsub ?_; refine ap_lstore rfl ?_; refine ap_lload rfl ?_; refine ap_aload_n rfl ?_; refine ap_getR ow_55 rf_8_13 rfl rfl rfl ?_; refine ap_aload_n rfl ?_; refine ap_getR ow_55 rf_8_19 rfl rfl rfl ?_; refine ap_iload_n rfl ?_; refine ai_iaload (n := 121) rfl rfl (by decide) ?_ ?_; refine ai_laload (n := 61) rfl rfl (by decide) ?_ ?_; refine ai_lsub ?_; refine ap_lstore rfl ?_; refine ap_lload_n rfl ?_; refine ap_aload_n rfl ?_; refine ap_getR ow_55 rf_8_7 rfl rfl rfl ?_; refine ap_aload_n rfl ?_; refine ap_getR ow_55 rf_8_23 rfl rfl rfl ?_; refine ap_iload_n rfl ?_; refine ai_iaload (n := 121) rfl rfl (by decide) ?_ ?_; refine ai_laload (n := 61) rfl rfl (by decide) ?_ ?_; refine ai_lsub ?_; refine ap_lstore rfl ?_; refine ap_lload rfl ?_; refine ap_aload_n rfl ?_; refine ap_getR ow_55 rf_8_13 rfl rfl rfl ?_; refine ap_aload_n rfl ?_; refine ap_getR ow_55 rf_8_23 rfl rfl rfl ?_; refine ap_iload_n rfl ?_; refine ai_iaload (n := 121) rfl rfl (by decide) ?_ ?_; refine ai_laload (n := 61) rfl rfl (by decide) ?_ ?_; refine ai_lsub ?_; refine ap_lstore rfl ?_; refine ap_lload rfl ?_; refine ap_lload rfl ?_; refine ai_lmul ?_; refine ap_lload rfl ?_; refine ap_lload rfl ?_; refine ai_lmul ?_; refine ai_ladd ?_; refine ai_lconst 0 rfl ?_
  refine ai_lcgt rfl rfl (fun hb0 => ?_) (fun hb0 => ?_) ?_
  · refine ap_go kc_55_140 ?_
    refine ap_lload rfl ?_; refine ap_lload rfl ?_; refine ai_lmul ?_; refine ap_lload rfl ?_; refine ap_lload rfl ?_; refine ai_lmul ?_; refine ai_ladd ?_; refine ai_lconst 0 rfl ?_
    refine ai_lclt rfl rfl (fun hb1 => ?_) (fun hb1 => ?_) ?_
    · refine ap_go kc_55_168 ?_
      refine ap_lload rfl ?_; refine ap_lload rfl ?_; refine ai_lmul ?_; refine ap_lload rfl ?_; refine ap_lload rfl ?_; refine ai_lmul ?_; refine ai_lsub ?_; refine ap_lstore rfl ?_; refine ap_lload rfl ?_; refine ap_lload rfl ?_; refine ai_lmul ?_; refine ap_lload rfl ?_; refine ap_lload rfl ?_; refine ai_lmul ?_; refine ap_lload rfl ?_; refine ap_lload rfl ?_; refine ai_lmul ?_; refine ai_ladd ?_; refine ai_ldiv ?_ ?_; refine ap_lret rfl ?_
      · refine sql K ?_; unfold sqmZ; first | rw [if_pos (Int.not_lt.mp hb0)] | rw [if_neg (Int.not_le.mpr hb0), if_pos (Int.not_lt.mp hb1)] | rw [if_neg (Int.not_le.mpr hb0), if_neg (Int.not_le.mpr hb1)]
      all_goals (first | assumption | exact ⟨h1, by decide, by decide⟩ | exact ⟨h2, by decide, by decide⟩ | exact ⟨h3.1, h3.2, h5 (Int.not_le.mpr hb0), h4.2⟩ | omega)
    · refine ap_go kc_55_156 ?_
      refine ap_lload rfl ?_; refine ap_lload rfl ?_; refine ai_lmul ?_; refine ap_lload rfl ?_; refine ap_lload rfl ?_; refine ai_lmul ?_; refine ai_ladd ?_; refine ap_lret rfl ?_
      refine sql K ?_; unfold sqmZ; first | rw [if_pos (Int.not_lt.mp hb0)] | rw [if_neg (Int.not_le.mpr hb0), if_pos (Int.not_lt.mp hb1)] | rw [if_neg (Int.not_le.mpr hb0), if_neg (Int.not_le.mpr hb1)]
    all_goals (first | assumption | exact ⟨h1, by decide, by decide⟩ | exact ⟨h2, by decide, by decide⟩ | exact ⟨h3.1, h3.2, h5 (Int.not_le.mpr hb0), h4.2⟩ | omega)
  · refine ap_go kc_55_128 ?_
    refine ap_lload rfl ?_; refine ap_lload rfl ?_; refine ai_lmul ?_; refine ap_lload rfl ?_; refine ap_lload rfl ?_; refine ai_lmul ?_; refine ai_ladd ?_; refine ap_lret rfl ?_
    refine sql K ?_; unfold sqmZ; first | rw [if_pos (Int.not_lt.mp hb0)] | rw [if_neg (Int.not_le.mpr hb0), if_pos (Int.not_lt.mp hb1)] | rw [if_neg (Int.not_le.mpr hb0), if_neg (Int.not_le.mpr hb1)]
  all_goals (first | assumption | exact ⟨h1, by decide, by decide⟩ | exact ⟨h2, by decide, by decide⟩ | exact ⟨h3.1, h3.2, h5 (Int.not_le.mpr hb0), h4.2⟩ | omega)
end
section
/-! SNAP: the loops -/
theorem mul_bd {a b A B : Int} (ha : -A ≤ a ∧ a ≤ A) (hb : -B ≤ b ∧ b ≤ B) : -(A * B) ≤ a * b ∧ a * b ≤ A * B := by
  have h1 : a.natAbs ≤ A.natAbs := by omega
  have h2 : b.natAbs ≤ B.natAbs := by omega
  have h3 : (a * b).natAbs ≤ (A * B).natAbs := by
    rw [Int.natAbs_mul, Int.natAbs_mul]
    exact Nat.mul_le_mul h1 h2
  have h4 : 0 ≤ A * B := Int.mul_nonneg (by omega) (by omega)
  omega
theorem sq_nn (a : Int) : 0 ≤ a * a := by
  rw [← Int.natAbs_mul_self]
  exact Int.natCast_nonneg _
/-- what the class's squares need of a street -/
def okS (f g : Nat → Nat → Int) (x y : Int) (s : Nat) : Prop := (0 ≤ f 6 s ∧ f 6 s < 61) ∧ (0 ≤ f 7 s ∧ f 7 s < 61) ∧ (-100000 ≤ dX f g s ∧ dX f g s ≤ 100000) ∧ (-100000 ≤ dY f g s ∧ dY f g s ≤ 100000) ∧
  (-10000000000 ≤ (x - g 2 (f 6 s).toNat) * dX f g s + (y - g 3 (f 6 s).toNat) * dY f g s ∧ (x - g 2 (f 6 s).toNat) * dX f g s + (y - g 3 (f 6 s).toNat) * dY f g s ≤ 10000000000) ∧ (0 ≤ dX f g s * dX f g s + dY f g s * dY f g s ∧ dX f g s * dX f g s + dY f g s * dY f g s ≤ 10000000000) ∧
  (0 ≤ ((x - g 2 (f 6 s).toNat) * dY f g s - (y - g 3 (f 6 s).toNat) * dX f g s) * ((x - g 2 (f 6 s).toNat) * dY f g s - (y - g 3 (f 6 s).toNat) * dX f g s) ∧ ((x - g 2 (f 6 s).toNat) * dY f g s - (y - g 3 (f 6 s).toNat) * dX f g s) * ((x - g 2 (f 6 s).toNat) * dY f g s - (y - g 3 (f 6 s).toNat) * dX f g s) < 9223372036854775808)
theorem okS_of {f g : Nat → Nat → Int} {x y : Int} {s : Nat} (hx : -20000 ≤ x ∧ x ≤ 20000) (hy : -20000 ≤ y ∧ y ≤ 20000) (h6 : 0 ≤ f 6 s ∧ f 6 s < 61) (h7 : 0 ≤ f 7 s ∧ f 7 s < 61) (hX : ∀ k, -10000 ≤ g 2 k ∧ g 2 k ≤ 10000) (hY : ∀ k, -10000 ≤ g 3 k ∧ g 3 k ≤ 10000) : okS f g x y s := by
  have a1 := hX (f 6 s).toNat
  have a2 := hX (f 7 s).toNat
  have a3 := hY (f 6 s).toNat
  have a4 := hY (f 7 s).toNat
  have p1 : -30000 ≤ x - g 2 (f 6 s).toNat ∧ x - g 2 (f 6 s).toNat ≤ 30000 := by omega
  have p2 : -30000 ≤ y - g 3 (f 6 s).toNat ∧ y - g 3 (f 6 s).toNat ≤ 30000 := by omega
  have v1 : -20000 ≤ dX f g s ∧ dX f g s ≤ 20000 := by unfold dX; omega
  have v2 : -20000 ≤ dY f g s ∧ dY f g s ≤ 20000 := by unfold dY; omega
  unfold okS
  generalize dX f g s = vx at v1 ⊢
  generalize dY f g s = vy at v2 ⊢
  generalize x - g 2 (f 6 s).toNat = px at p1 ⊢
  generalize y - g 3 (f 6 s).toNat = py at p2 ⊢
  have m1 := mul_bd p1 v1
  have m2 := mul_bd p2 v2
  have m3 := mul_bd p1 v2
  have m4 := mul_bd p2 v1
  have m5 := mul_bd v1 v1
  have m6 := mul_bd v2 v2
  have n1 := sq_nn vx
  have n2 := sq_nn vy
  refine ⟨h6, h7, by omega, by omega, by omega, by omega, sq_nn _, ?_⟩
  have c1 : -1200000000 ≤ px * vy - py * vx ∧ px * vy - py * vx ≤ 1200000000 := by omega
  have := mul_bd c1 c1
  omega
theorem snC_f {fit : Nat → Bool} {sq : Nat → Int} {k : Nat} (h : ¬ (fit (k + 1) = true ∧ sq (k + 1) < (snC fit sq k).2)) : snC fit sq (k + 1) = snC fit sq k := if_neg h
theorem snC_t {fit : Nat → Bool} {sq : Nat → Int} {k : Nat} (h : fit (k + 1) = true) (h2 : sq (k + 1) < (snC fit sq k).2) : snC fit sq (k + 1) = ((k : Int) + 1, sq (k + 1)) := (if_pos ⟨h, h2⟩).trans (by simp)
abbrev fitC (f g : Nat → Nat → Int) (h : Int) (s : Nat) : Bool := fitB (octZ (dX f g s) (dY f g s)) h
abbrev sqC (f g : Nat → Nat → Int) (x y : Int) (s : Nat) : Int := sqrZ (x - g 2 (f 6 s).toNat) (y - g 3 (f 6 s).toNat) (dX f g s) (dY f g s)
theorem sqr_in {px py vx vy : Int} (hp : -30000 ≤ px ∧ px ≤ 30000) (hq : -30000 ≤ py ∧ py ≤ 30000) (hv : -20000 ≤ vx ∧ vx ≤ 20000) (hw : -20000 ≤ vy ∧ vy ≤ 20000) : 0 ≤ sqrZ px py vx vy ∧ sqrZ px py vx vy < 9223372036854775808 := by
  have m1 := mul_bd hp hp
  have m2 := mul_bd hq hq
  have d1 : -50000 ≤ px - vx ∧ px - vx ≤ 50000 := by omega
  have d2 : -50000 ≤ py - vy ∧ py - vy ≤ 50000 := by omega
  have m3 := mul_bd d1 d1
  have m4 := mul_bd d2 d2
  have n1 := sq_nn px
  have n2 := sq_nn py
  have n3 := sq_nn (px - vx)
  have n4 := sq_nn (py - vy)
  unfold sqrZ
  split
  · omega
  · split
    · omega
    · rename_i h1 h2
      have c1 := mul_bd hp hw
      have c2 := mul_bd hq hv
      have c3 : -1200000000 ≤ px * vy - py * vx ∧ px * vy - py * vx ≤ 1200000000 := by omega
      have c4 := mul_bd c3 c3
      have n5 := sq_nn (px * vy - py * vx)
      have q1 := Int.ediv_nonneg (a := (px * vy - py * vx) * (px * vy - py * vx)) (b := vx * vx + vy * vy) n5 (by omega)
      have q2 := Int.ediv_le_self (a := (px * vy - py * vx) * (px * vy - py * vx)) (vx * vx + vy * vy) n5
      omega
theorem sqC_in {f g : Nat → Nat → Int} {x y : Int} (hx : -20000 ≤ x ∧ x ≤ 20000) (hy : -20000 ≤ y ∧ y ≤ 20000) (hX : ∀ k, -10000 ≤ g 2 k ∧ g 2 k ≤ 10000) (hY : ∀ k, -10000 ≤ g 3 k ∧ g 3 k ≤ 10000) (s : Nat) : lR (sqC f g x y s) := by
  have a1 := hX (f 6 s).toNat
  have a2 := hX (f 7 s).toNat
  have a3 := hY (f 6 s).toNat
  have a4 := hY (f 7 s).toNat
  have := sqr_in (px := x - g 2 (f 6 s).toNat) (py := y - g 3 (f 6 s).toNat) (vx := dX f g s) (vy := dY f g s) (by omega) (by omega) (by unfold dX; omega) (by unfold dY; omega)
  exact ⟨Int.le_trans (by decide) this.1, this.2⟩
theorem lp_8 {d L : Nat} {sw : Bool} {f g : Nat → Nat → Int} {Q : Option Value → am_H → Prop} {x y h : Int} (hc : 0 ≤ f 5 8 ∧ f 5 8 ≤ 120) (hh : -1 ≤ h ∧ h ≤ 7) (hok : ∀ s : Nat, 1 ≤ s → (s : Int) ≤ f 5 8 → okS f g x y s) (hsq : ∀ s, lR (sqC f g x y s)) (K : Q (some (.int (iZ (snC (fitC f g h) (sqC f g x y) (f 5 8).toNat).1))) (53, sh_lt L, iH f, jH g, sh_rt sw)) : ∀ (m k : Nat) (a l i : Int), (f 5 8).toNat = k + m → a = (snC (fitC f g h) (sqC f g x y) k).1 → l = (snC (fitC f g h) (sqC f g x y) k).2 → i = k + 1 → am_Wp (am_call (d + 3)) 8 Q 50 [some (.ref 0), some (.long (lZ x)), none, some (.long (lZ y)), none, some (.int (iZ h)), some (.int (iZ a)), some (.long (lZ l)), none, some (.int (iZ i)), none, none] [] (53, sh_lt L, iH f, jH g, sh_rt sw) (0, 0) := by
  intro m
  induction m with
  | zero =>
    intro k a l i hk ea el ei
    refine ap_go kc_8_50 ?_
    refine ap_iload rfl ?_; refine ap_aload_n rfl ?_; refine ap_getR ow_8 rf_7_21 rfl rfl rfl ?_; refine ap_callv0 ow_8 rm_7_163 na_93 mc_93 ms_93 rfl rfl (Nat.le_of_ble_eq_true rfl) (Nat.le_of_ble_eq_true rfl) (Or.inr rfl) (Nat.zero_le _) (Nat.zero_le _) ?_; refine sp_93 ?_; dsimp only [Option.toList_some, Option.toList_none, List.cons_append, List.nil_append]
    refine ai_icgt rfl rfl (fun hc0 => ?_) (fun hc0 => ?_) ?_
    · refine ap_go kc_8_105 ?_
      refine ap_iload rfl ?_; refine ap_iret rfl ?_
      rw [hk] at K; rw [ea]; exact K
    · exfalso; omega
    all_goals (omega)
  | succ m ih =>
    intro k a l i hk ea el ei
    have hin := snC_in hsq (fit := fitC f g h) k
    rw [← ea, ← el] at hin
    have ei' : i.toNat = k + 1 := by omega
    obtain ⟨o1, o2, o3, o4, o5, o6, o7⟩ := hok (k + 1) (by omega) (by omega)
    rw [← ei'] at o1 o2 o3 o4 o5 o6 o7
    have hsk := hsq i.toNat
    have sf := snC_f (fit := fitC f g h) (sq := sqC f g x y) (k := k)
    have stt := snC_t (fit := fitC f g h) (sq := sqC f g x y) (k := k)
    refine ap_go kc_8_50 ?_
    refine ap_iload rfl ?_; refine ap_aload_n rfl ?_; refine ap_getR ow_8 rf_7_21 rfl rfl rfl ?_; refine ap_callv0 ow_8 rm_7_163 na_93 mc_93 ms_93 rfl rfl (Nat.le_of_ble_eq_true rfl) (Nat.le_of_ble_eq_true rfl) (Or.inr rfl) (Nat.zero_le _) (Nat.zero_le _) ?_; refine sp_93 ?_; dsimp only [Option.toList_some, Option.toList_none, List.cons_append, List.nil_append]
    refine ai_icgt rfl rfl (fun hc0 => ?_) (fun hc0 => ?_) ?_
    · exfalso; omega
    · refine ap_go kc_8_62 ?_
      refine ap_aload_n rfl ?_; refine ap_iload rfl ?_; refine ap_iload rfl ?_; refine ap_callv0 ow_8 rm_7_166 na_22 mc_22 ms_22 rfl rfl (Nat.le_of_ble_eq_true rfl) (Nat.le_of_ble_eq_true rfl) (Or.inr rfl) (Nat.zero_le _) (Nat.zero_le _) ?_; refine sp_22 ?_ ?_ ?_ ?_ ?_ ?_ ?_; dsimp only [Option.toList_some, Option.toList_none, List.cons_append, List.nil_append]
      refine ai_ifeq rfl rfl (fun hc1 => ?_) (fun hc1 => ?_) ?_
      · refine ap_go kc_8_99 ?_
        refine ai_iinc rfl rfl ?_; refine ap_goto rfl ?_
        (try simp only [bz, Decidable.not_not] at hc1); rw [ei'] at hc1; first | exact am_weak (by first | exact am_le_0 | (repeat (first | exact am_le_0 | refine am_le_n ?_ | refine am_le_s ?_))) (ih (k + 1) a l _ (by omega) (ea.trans (congrArg Prod.fst (sf (fun q => hc1 q.1))).symm) (el.trans (congrArg Prod.snd (sf (fun q => hc1 q.1))).symm) (by omega)) | (rw [ei', el] at hc2; exact am_weak (by first | exact am_le_0 | (repeat (first | exact am_le_0 | refine am_le_n ?_ | refine am_le_s ?_))) (ih (k + 1) a l _ (by omega) (ea.trans (congrArg Prod.fst (sf (fun q => absurd q.2 (Int.not_lt.mpr hc2)))).symm) (el.trans (congrArg Prod.snd (sf (fun q => absurd q.2 (Int.not_lt.mpr hc2)))).symm) (by omega))) | (rw [ei', el] at hc2; exact am_weak (by first | exact am_le_0 | (repeat (first | exact am_le_0 | refine am_le_n ?_ | refine am_le_s ?_))) (ih (k + 1) i _ _ (by omega) (ei.trans (congrArg Prod.fst (stt hc1 (Int.not_le.mp hc2))).symm) ((congrArg (sqC f g x y) ei').trans (congrArg Prod.snd (stt hc1 (Int.not_le.mp hc2))).symm) (by omega)))
      · refine ap_go kc_8_73 ?_
        refine ap_aload_n rfl ?_; refine ap_iload rfl ?_; refine ap_lload_n rfl ?_; refine ap_lload_n rfl ?_; refine ap_callv0 ow_8 rm_7_169 na_23 mc_23 ms_23 rfl rfl (Nat.le_of_ble_eq_true rfl) (Nat.le_of_ble_eq_true rfl) (Or.inr rfl) (Nat.zero_le _) (Nat.zero_le _) ?_; refine sp_23 ?_ ?_ ?_ ?_ ?_ ?_ ?_; dsimp only [Option.toList_some, Option.toList_none, List.cons_append, List.nil_append]; refine ap_lstore rfl ?_; refine ap_lload rfl ?_; refine ap_lload rfl ?_
        refine ai_lcge rfl rfl (fun hc2 => ?_) (fun hc2 => ?_) ?_
        · refine ap_go kc_8_99 ?_
          refine ai_iinc rfl rfl ?_; refine ap_goto rfl ?_
          (try simp only [bz, Decidable.not_not] at hc1); rw [ei'] at hc1; first | exact am_weak (by first | exact am_le_0 | (repeat (first | exact am_le_0 | refine am_le_n ?_ | refine am_le_s ?_))) (ih (k + 1) a l _ (by omega) (ea.trans (congrArg Prod.fst (sf (fun q => hc1 q.1))).symm) (el.trans (congrArg Prod.snd (sf (fun q => hc1 q.1))).symm) (by omega)) | (rw [ei', el] at hc2; exact am_weak (by first | exact am_le_0 | (repeat (first | exact am_le_0 | refine am_le_n ?_ | refine am_le_s ?_))) (ih (k + 1) a l _ (by omega) (ea.trans (congrArg Prod.fst (sf (fun q => absurd q.2 (Int.not_lt.mpr hc2)))).symm) (el.trans (congrArg Prod.snd (sf (fun q => absurd q.2 (Int.not_lt.mpr hc2)))).symm) (by omega))) | (rw [ei', el] at hc2; exact am_weak (by first | exact am_le_0 | (repeat (first | exact am_le_0 | refine am_le_n ?_ | refine am_le_s ?_))) (ih (k + 1) i _ _ (by omega) (ei.trans (congrArg Prod.fst (stt hc1 (Int.not_le.mp hc2))).symm) ((congrArg (sqC f g x y) ei').trans (congrArg Prod.snd (stt hc1 (Int.not_le.mp hc2))).symm) (by omega)))
        · refine ap_go kc_8_91 ?_
          refine ap_lload rfl ?_; refine ap_lstore rfl ?_; refine ap_iload rfl ?_; refine ap_istore rfl ?_; refine ap_nil ?_
          refine ap_go kc_8_99 ?_
          refine ai_iinc rfl rfl ?_; refine ap_goto rfl ?_
          (try simp only [bz, Decidable.not_not] at hc1); rw [ei'] at hc1; first | exact am_weak (by first | exact am_le_0 | (repeat (first | exact am_le_0 | refine am_le_n ?_ | refine am_le_s ?_))) (ih (k + 1) a l _ (by omega) (ea.trans (congrArg Prod.fst (sf (fun q => hc1 q.1))).symm) (el.trans (congrArg Prod.snd (sf (fun q => hc1 q.1))).symm) (by omega)) | (rw [ei', el] at hc2; exact am_weak (by first | exact am_le_0 | (repeat (first | exact am_le_0 | refine am_le_n ?_ | refine am_le_s ?_))) (ih (k + 1) a l _ (by omega) (ea.trans (congrArg Prod.fst (sf (fun q => absurd q.2 (Int.not_lt.mpr hc2)))).symm) (el.trans (congrArg Prod.snd (sf (fun q => absurd q.2 (Int.not_lt.mpr hc2)))).symm) (by omega))) | (rw [ei', el] at hc2; exact am_weak (by first | exact am_le_0 | (repeat (first | exact am_le_0 | refine am_le_n ?_ | refine am_le_s ?_))) (ih (k + 1) i _ _ (by omega) (ei.trans (congrArg Prod.fst (stt hc1 (Int.not_le.mp hc2))).symm) ((congrArg (sqC f g x y) ei').trans (congrArg Prod.snd (stt hc1 (Int.not_le.mp hc2))).symm) (by omega)))
        all_goals (first | omega | assumption | (split <;> omega) | exact ⟨hsk, hin.2⟩)
      all_goals (first | omega | assumption | (split <;> omega) | exact ⟨hsk, hin.2⟩)
    all_goals (first | omega | assumption | (split <;> omega) | exact ⟨hsk, hin.2⟩)
end
section
/-! SNAP of the class, of the reference -/
theorem sp_8 {d L : Nat} {sw : Bool} {f g : Nat → Nat → Int} {Q : Option Value → am_H → Prop} {x y h : Int} (K1 : ¬ (-20000 ≤ x ∧ x ≤ 20000 ∧ -20000 ≤ y ∧ y ≤ 20000 ∧ -1 ≤ h ∧ h ≤ 7) → Q (some (.int (iZ (-2)))) (53, sh_lt L, iH f, jH g, sh_rt sw)) (K2 : (-20000 ≤ x ∧ x ≤ 20000 ∧ -20000 ≤ y ∧ y ≤ 20000 ∧ -1 ≤ h ∧ h ≤ 7) → Q (some (.int (iZ ((snC (fitC f g h) (sqC f g x y) (f 5 8).toNat).1)))) (53, sh_lt L, iH f, jH g, sh_rt sw)) (hx : lR x) (hy : lR y) (hh : iR h) (hc : 0 ≤ f 5 8 ∧ f 5 8 ≤ 120) (hst : ∀ s : Nat, 1 ≤ s → (s : Int) ≤ f 5 8 → (0 ≤ f 6 s ∧ f 6 s < 61) ∧ (0 ≤ f 7 s ∧ f 7 s < 61)) (hX : ∀ k, -10000 ≤ g 2 k ∧ g 2 k ≤ 10000) (hY : ∀ k, -10000 ≤ g 3 k ∧ g 3 k ≤ 10000) : am_call (d + 4) 8 [.ref 0, .long (lZ x), .long (lZ y), .int (iZ h)] (53, sh_lt L, iH f, jH g, sh_rt sw) Q := by
  refine ap_call (by decide) (Nat.le_of_ble_eq_true rfl) rfl ?_
  refine ap_go kc_8_0 ?_
  refine ap_lload_n rfl ?_; refine ai_ldc2 (20000) ow_8 kl_7_159 rfl ?_; refine ap_calls0 ow_8 rm_7_72 na_15 mc_15 ms_15 rfl rfl (Nat.le_of_ble_eq_true rfl) (Nat.le_of_ble_eq_true rfl) rfl (Nat.zero_le _) (Nat.zero_le _) ?_; refine sp_15 ?_ ?_ ?_; dsimp only [Option.toList_some, Option.toList_none, List.cons_append, List.nil_append]
  refine ai_ifeq rfl rfl (fun hb0 => ?_) (fun hb0 => ?_) ?_
  · refine ap_go kc_8_20 ?_
    refine ai_bipush (by decide) ?_; refine ap_iret rfl ?_
    (try simp only [bz, Decidable.not_not] at *); first | exact K1  (by omega) | exact K2  (by omega)
  · refine ap_go kc_8_10 ?_
    refine ap_lload_n rfl ?_; refine ai_ldc2 (20000) ow_8 kl_7_159 rfl ?_; refine ap_calls0 ow_8 rm_7_72 na_15 mc_15 ms_15 rfl rfl (Nat.le_of_ble_eq_true rfl) (Nat.le_of_ble_eq_true rfl) rfl (Nat.zero_le _) (Nat.zero_le _) ?_; refine sp_15 ?_ ?_ ?_; dsimp only [Option.toList_some, Option.toList_none, List.cons_append, List.nil_append]
    refine ai_ifne rfl rfl (fun hb1 => ?_) (fun hb1 => ?_) ?_
    · refine ap_go kc_8_23 ?_
      refine ap_iload rfl ?_; refine ai_iconst ?_
      refine ai_iclt rfl rfl (fun hb2 => ?_) (fun hb2 => ?_) ?_
      · refine ap_go kc_8_36 ?_
        refine ai_bipush (by decide) ?_; refine ap_iret rfl ?_
        (try simp only [bz, Decidable.not_not] at *); first | exact K1  (by omega) | exact K2  (by omega)
      · refine ap_go kc_8_29 ?_
        refine ap_iload rfl ?_; refine ai_bipush (by decide) ?_
        refine ai_icle rfl rfl (fun hb3 => ?_) (fun hb3 => ?_) ?_
        · refine ap_go kc_8_39 ?_
          refine ai_iconst ?_; refine ap_istore rfl ?_; refine ai_ldc2 (2501) ow_8 kl_7_161 rfl ?_; refine ap_lstore rfl ?_; refine ai_iconst ?_; refine ap_istore rfl ?_; refine ap_nil ?_
          (try simp only [bz, Decidable.not_not] at *); exact am_weak (by first | exact am_le_0 | (repeat (first | exact am_le_0 | refine am_le_n ?_ | refine am_le_s ?_))) (lp_8 hc (by omega) (fun s a b => okS_of (by omega) (by omega) (hst s a b).1 (hst s a b).2 hX hY) (sqC_in (by omega) (by omega) hX hY) (K2 (by omega)) (f 5 8).toNat 0 0 2501 1 (by omega) rfl rfl rfl)
        · refine ap_go kc_8_36 ?_
          refine ai_bipush (by decide) ?_; refine ap_iret rfl ?_
          (try simp only [bz, Decidable.not_not] at *); first | exact K1  (by omega) | exact K2  (by omega)
        all_goals (first | omega | (split <;> omega) | (simp only [bz, Decidable.not_not] at *; omega))
      all_goals (first | omega | (split <;> omega) | (simp only [bz, Decidable.not_not] at *; omega))
    · refine ap_go kc_8_20 ?_
      refine ai_bipush (by decide) ?_; refine ap_iret rfl ?_
      (try simp only [bz, Decidable.not_not] at *); first | exact K1  (by omega) | exact K2  (by omega)
    all_goals (first | omega | (split <;> omega) | (simp only [bz, Decidable.not_not] at *; omega))
  all_goals (first | omega | (split <;> omega) | (simp only [bz, Decidable.not_not] at *; omega))

def fitMB (o h : Int) : Bool := decide (h < 0) || (decide (0 ≤ o) && (decide ((if o < h then h - o else o - h) < 2) || decide ((if o < h then h - o else o - h) = 7)))
theorem fit_same {o h : Int} (ho : -1 ≤ o ∧ o ≤ 7) (hh : -1 ≤ h ∧ h ≤ 7) : fitB o h = fitMB o h := by
  rw [Bool.eq_iff_iff]
  unfold fitB fitMB
  simp only [Bool.or_eq_true, Bool.and_eq_true, decide_eq_true_eq]
  split <;> omega
abbrev fitM (f g : Nat → Nat → Int) (h : Int) (s : Nat) : Bool := fitMB (octZ (eX f g s) (eY f g s)) h
abbrev sqM (f g : Nat → Nat → Int) (x y : Int) (s : Nat) : Int := sqmZ (x - g 32 (f 35 s).toNat) (y - g 33 (f 35 s).toNat) (eX f g s) (eY f g s) (x - g 32 (f 36 s).toNat) (y - g 33 (f 36 s).toNat)
theorem snM_f {fit : Nat → Bool} {sq : Nat → Int} {k : Nat} {dv : Int} (e : dv = if fit (k + 1) = true then sq (k + 1) else 2501) (h : ¬ (dv ≤ 2500 ∧ ((snM fit sq k).1 = 0 ∨ dv < (snM fit sq k).2))) : snM fit sq (k + 1) = snM fit sq k := by
  subst e; exact if_neg h
theorem snM_t {fit : Nat → Bool} {sq : Nat → Int} {k : Nat} {dv : Int} (e : dv = if fit (k + 1) = true then sq (k + 1) else 2501) (h : dv ≤ 2500 ∧ ((snM fit sq k).1 = 0 ∨ dv < (snM fit sq k).2)) : snM fit sq (k + 1) = ((k : Int) + 1, dv) := by
  subst e; exact (if_pos h).trans (by simp)
/-- what the reference's squares need of a street -/
def okM (f g : Nat → Nat → Int) (x y : Int) (s : Nat) : Prop := (0 ≤ f 35 s ∧ f 35 s < 61) ∧ (0 ≤ f 36 s ∧ f 36 s < 61) ∧ (-100000 ≤ eX f g s ∧ eX f g s ≤ 100000) ∧ (-100000 ≤ eY f g s ∧ eY f g s ≤ 100000) ∧
  lR ((x - g 32 (f 35 s).toNat) * eX f g s + (y - g 33 (f 35 s).toNat) * eY f g s) ∧ lR ((x - g 32 (f 36 s).toNat) * eX f g s + (y - g 33 (f 36 s).toNat) * eY f g s) ∧
  (0 ≤ ((x - g 32 (f 35 s).toNat) * eY f g s - (y - g 33 (f 35 s).toNat) * eX f g s) * ((x - g 32 (f 35 s).toNat) * eY f g s - (y - g 33 (f 35 s).toNat) * eX f g s) ∧ ((x - g 32 (f 35 s).toNat) * eY f g s - (y - g 33 (f 35 s).toNat) * eX f g s) * ((x - g 32 (f 35 s).toNat) * eY f g s - (y - g 33 (f 35 s).toNat) * eX f g s) < 9223372036854775808) ∧
  (0 ≤ eX f g s * eX f g s + eY f g s * eY f g s ∧ eX f g s * eX f g s + eY f g s * eY f g s < 9223372036854775808) ∧ (¬ (x - g 32 (f 35 s).toNat) * eX f g s + (y - g 33 (f 35 s).toNat) * eY f g s ≤ 0 → 0 < eX f g s * eX f g s + eY f g s * eY f g s)
theorem sq_0 {a : Int} (h : a * a = 0) : a = 0 := by
  rcases Int.mul_eq_zero.mp h with h | h <;> exact h
theorem okM_of {f g : Nat → Nat → Int} {x y : Int} {s : Nat} (hx : -20000 ≤ x ∧ x ≤ 20000) (hy : -20000 ≤ y ∧ y ≤ 20000) (h6 : 0 ≤ f 35 s ∧ f 35 s < 61) (h7 : 0 ≤ f 36 s ∧ f 36 s < 61) (hX : ∀ k, -10000 ≤ g 32 k ∧ g 32 k ≤ 10000) (hY : ∀ k, -10000 ≤ g 33 k ∧ g 33 k ≤ 10000) : okM f g x y s := by
  have a1 := hX (f 35 s).toNat
  have a2 := hX (f 36 s).toNat
  have a3 := hY (f 35 s).toNat
  have a4 := hY (f 36 s).toNat
  have p1 : -30000 ≤ x - g 32 (f 35 s).toNat ∧ x - g 32 (f 35 s).toNat ≤ 30000 := by omega
  have p2 : -30000 ≤ y - g 33 (f 35 s).toNat ∧ y - g 33 (f 35 s).toNat ≤ 30000 := by omega
  have p3 : -30000 ≤ x - g 32 (f 36 s).toNat ∧ x - g 32 (f 36 s).toNat ≤ 30000 := by omega
  have p4 : -30000 ≤ y - g 33 (f 36 s).toNat ∧ y - g 33 (f 36 s).toNat ≤ 30000 := by omega
  have v1 : -20000 ≤ eX f g s ∧ eX f g s ≤ 20000 := by unfold eX; omega
  have v2 : -20000 ≤ eY f g s ∧ eY f g s ≤ 20000 := by unfold eY; omega
  unfold okM
  generalize eX f g s = vx at v1 ⊢
  generalize eY f g s = vy at v2 ⊢
  generalize x - g 32 (f 35 s).toNat = px at p1 ⊢
  generalize y - g 33 (f 35 s).toNat = py at p2 ⊢
  generalize x - g 32 (f 36 s).toNat = qx at p3 ⊢
  generalize y - g 33 (f 36 s).toNat = qy at p4 ⊢
  have m1 := mul_bd p1 v1
  have m2 := mul_bd p2 v2
  have m3 := mul_bd p1 v2
  have m4 := mul_bd p2 v1
  have m5 := mul_bd v1 v1
  have m6 := mul_bd v2 v2
  have m7 := mul_bd p3 v1
  have m8 := mul_bd p4 v2
  have n1 := sq_nn vx
  have n2 := sq_nn vy
  have c1 : -1200000000 ≤ px * vy - py * vx ∧ px * vy - py * vx ≤ 1200000000 := by omega
  have c2 := mul_bd c1 c1
  refine ⟨h6, h7, by omega, by omega, by omega, by omega, ⟨sq_nn _, by omega⟩, by omega, fun hz => ?_⟩
  rcases Int.lt_or_le 0 (vx * vx + vy * vy) with q | q
  · exact q
  · exfalso
    have z1 := sq_0 (a := vx) (by omega)
    have z2 := sq_0 (a := vy) (by omega)
    subst z1; subst z2
    simp at hz
/-- the two squares are one -/
theorem sq_same {px py vx vy qx qy : Int} (e1 : qx = px - vx) (e2 : qy = py - vy) : sqrZ px py vx vy = sqmZ px py vx vy qx qy := by
  subst e1; subst e2
  unfold sqrZ sqmZ
  have n1 := sq_nn vx
  have n2 := sq_nn vy
  have e3 : (px - vx) * vx + (py - vy) * vy = (px * vx + py * vy) - (vx * vx + vy * vy) := by
    rw [Int.sub_mul, Int.sub_mul]; omega
  rw [e3]
  by_cases h : px * vx + py * vy ≤ 0
  · rw [if_pos (Or.inl h), if_pos h]
  · have hv : ¬ vx * vx + vy * vy ≤ 0 := fun q => by
      have z1 := sq_0 (a := vx) (by omega)
      have z2 := sq_0 (a := vy) (by omega)
      subst z1; subst z2
      simp at h
    rw [if_neg (fun q => q.elim h hv), if_neg h]
    by_cases h2 : vx * vx + vy * vy ≤ px * vx + py * vy
    · rw [if_pos h2, if_pos (by omega)]
    · rw [if_neg h2, if_neg (by omega)]
end
section
/-! SNAP of the reference: the loop -/
theorem lp_56 {d L : Nat} {sw : Bool} {f g : Nat → Nat → Int} {Q : Option Value → am_H → Prop} {x y h : Int} (hc : 0 ≤ f 31 5 ∧ f 31 5 ≤ 120) (hh : -1 ≤ h ∧ h ≤ 7) (hok : ∀ s : Nat, 1 ≤ s → (s : Int) ≤ f 31 5 → okM f g x y s) (hsq : ∀ s, lR (sqM f g x y s)) (K : Q (some (.int (iZ (snM (fitM f g h) (sqM f g x y) (f 31 5).toNat).1))) (53, sh_lt L, iH f, jH g, sh_rt sw)) : ∀ (m k : Nat) (a l i : Int), (f 31 5).toNat = k + m → a = (snM (fitM f g h) (sqM f g x y) k).1 → l = (snM (fitM f g h) (sqM f g x y) k).2 → i = k + 1 → am_Wp (am_call (d + 1)) 56 Q 62 [some (.ref 31), some (.long (lZ x)), none, some (.long (lZ y)), none, some (.int (iZ h)), some (.int (iZ a)), some (.long (lZ l)), none, some (.int (iZ i)), none, none, none, none, none] [] (53, sh_lt L, iH f, jH g, sh_rt sw) (0, 0) := by
  intro m
  induction m with
  | zero =>
    intro k a l i hk ea el ei
    refine ap_go kc_56_62 ?_
    refine ap_iload rfl ?_; refine ap_aload_n rfl ?_; refine ai_getI ow_56 rf_8_88 rfl rfl ?_
    refine ai_icgt rfl rfl (fun hc0 => ?_) (fun hc0 => ?_) ?_
    · refine ap_go kc_56_235 ?_
      refine ap_iload rfl ?_; refine ap_iret rfl ?_
      rw [hk] at K; rw [ea]; exact K
    · exfalso; omega
    all_goals (omega)
  | succ m ih =>
    intro k a l i hk ea el ei
    have hin := snM_in hsq (fit := fitM f g h) k
    rw [← ea, ← el] at hin
    have ei' : i.toNat = k + 1 := by omega
    obtain ⟨o1, o2, o3, o4, o5, o6, o7, o8, o9⟩ := hok (k + 1) (by omega) (by omega)
    rw [← ei'] at o1 o2 o3 o4 o5 o6 o7 o8 o9
    have hsk := hsq i.toNat
    have ho := oct_in (g 32 (f 36 i.toNat).toNat - g 32 (f 35 i.toNat).toNat) (g 33 (f 36 i.toNat).toNat - g 33 (f 35 i.toNat).toNat)
    have j197 : ∀ dv : Int, dv = (if fitM f g h (k + 1) = true then sqM f g x y (k + 1) else 2501) → am_Wp (am_call (d + 1)) 56 Q 197 [some (.ref 31), some (.long (lZ x)), none, some (.long (lZ y)), none, some (.int (iZ h)), some (.int (iZ a)), some (.long (lZ l)), none, some (.int (iZ i)), none, none, none, none, none] [.long (lZ dv)] (53, sh_lt L, iH f, jH g, sh_rt sw) (0, 0) := by
      intro dv ed
      have hdv : lR dv := by
        rw [ed, ← ei']
        split
        · exact hsk
        · omega
      have sf := snM_f (fit := fitM f g h) (sq := sqM f g x y) (k := k) ed
      have stt := snM_t (fit := fitM f g h) (sq := sqM f g x y) (k := k) ed
      rw [← ea, ← el] at sf stt
      refine ap_go kc_56_197 ?_
      refine ap_lstore rfl ?_; refine ap_lload rfl ?_; refine ai_ldc2 (2500) ow_56 kl_8_205 rfl ?_
      refine ai_lcgt rfl rfl (fun hd0 => ?_) (fun hd0 => ?_) ?_
      · refine ap_go kc_56_229 ?_
        refine ai_iinc rfl rfl ?_; refine ap_goto rfl ?_
        first | exact am_weak (by first | exact am_le_0 | (repeat (first | exact am_le_0 | refine am_le_n ?_ | refine am_le_s ?_))) (ih (k + 1) a l _ (by omega) (ea.trans (congrArg Prod.fst (sf (by omega))).symm) (el.trans (congrArg Prod.snd (sf (by omega))).symm) (by omega)) | exact am_weak (by first | exact am_le_0 | (repeat (first | exact am_le_0 | refine am_le_n ?_ | refine am_le_s ?_))) (ih (k + 1) i dv _ (by omega) (ei.trans (congrArg Prod.fst (stt (by omega))).symm) (congrArg Prod.snd (stt (by omega))).symm (by omega))
      · refine ap_go kc_56_208 ?_
        refine ap_iload rfl ?_
        refine ai_ifeq rfl rfl (fun hd1 => ?_) (fun hd1 => ?_) ?_
        · refine ap_go kc_56_221 ?_
          refine ap_iload rfl ?_; refine ap_istore rfl ?_; refine ap_lload rfl ?_; refine ap_lstore rfl ?_; refine ap_nil ?_
          refine ap_go kc_56_229 ?_
          refine ai_iinc rfl rfl ?_; refine ap_goto rfl ?_
          first | exact am_weak (by first | exact am_le_0 | (repeat (first | exact am_le_0 | refine am_le_n ?_ | refine am_le_s ?_))) (ih (k + 1) a l _ (by omega) (ea.trans (congrArg Prod.fst (sf (by omega))).symm) (el.trans (congrArg Prod.snd (sf (by omega))).symm) (by omega)) | exact am_weak (by first | exact am_le_0 | (repeat (first | exact am_le_0 | refine am_le_n ?_ | refine am_le_s ?_))) (ih (k + 1) i dv _ (by omega) (ei.trans (congrArg Prod.fst (stt (by omega))).symm) (congrArg Prod.snd (stt (by omega))).symm (by omega))
        · refine ap_go kc_56_213 ?_
          refine ap_lload rfl ?_; refine ap_lload rfl ?_
          refine ai_lcge rfl rfl (fun hd2 => ?_) (fun hd2 => ?_) ?_
          · refine ap_go kc_56_229 ?_
            refine ai_iinc rfl rfl ?_; refine ap_goto rfl ?_
            first | exact am_weak (by first | exact am_le_0 | (repeat (first | exact am_le_0 | refine am_le_n ?_ | refine am_le_s ?_))) (ih (k + 1) a l _ (by omega) (ea.trans (congrArg Prod.fst (sf (by omega))).symm) (el.trans (congrArg Prod.snd (sf (by omega))).symm) (by omega)) | exact am_weak (by first | exact am_le_0 | (repeat (first | exact am_le_0 | refine am_le_n ?_ | refine am_le_s ?_))) (ih (k + 1) i dv _ (by omega) (ei.trans (congrArg Prod.fst (stt (by omega))).symm) (congrArg Prod.snd (stt (by omega))).symm (by omega))
          · refine ap_go kc_56_221 ?_
            refine ap_iload rfl ?_; refine ap_istore rfl ?_; refine ap_lload rfl ?_; refine ap_lstore rfl ?_; refine ap_nil ?_
            refine ap_go kc_56_229 ?_
            refine ai_iinc rfl rfl ?_; refine ap_goto rfl ?_
            first | exact am_weak (by first | exact am_le_0 | (repeat (first | exact am_le_0 | refine am_le_n ?_ | refine am_le_s ?_))) (ih (k + 1) a l _ (by omega) (ea.trans (congrArg Prod.fst (sf (by omega))).symm) (el.trans (congrArg Prod.snd (sf (by omega))).symm) (by omega)) | exact am_weak (by first | exact am_le_0 | (repeat (first | exact am_le_0 | refine am_le_n ?_ | refine am_le_s ?_))) (ih (k + 1) i dv _ (by omega) (ei.trans (congrArg Prod.fst (stt (by omega))).symm) (congrArg Prod.snd (stt (by omega))).symm (by omega))
          all_goals (first | omega | exact ⟨hdv, by decide, by decide⟩ | exact ⟨hdv, hin.2⟩)
        all_goals (first | omega | exact ⟨hdv, by decide, by decide⟩ | exact ⟨hdv, hin.2⟩)
      all_goals (first | omega | exact ⟨hdv, by decide, by decide⟩ | exact ⟨hdv, hin.2⟩)
    have j176 : ∀ c : Int, (c = 1 ∧ fitM f g h (k + 1) = true ∨ c = 0 ∧ ¬ fitM f g h (k + 1) = true) → am_Wp (am_call (d + 1)) 56 Q 176 [some (.ref 31), some (.long (lZ x)), none, some (.long (lZ y)), none, some (.int (iZ h)), some (.int (iZ a)), some (.long (lZ l)), none, some (.int (iZ i)), none, none, none, none, none] [.int (iZ c)] (53, sh_lt L, iH f, jH g, sh_rt sw) (0, 0) := by
      intro c hcc
      rcases hcc with ⟨rfl, hft⟩ | ⟨rfl, hft⟩
      ·
        refine ap_go kc_56_176 ?_
        refine ap_istore rfl ?_; refine ap_iload rfl ?_
        refine ai_ifeq rfl rfl (fun he0 => ?_) (fun he0 => ?_) ?_
        · exfalso; omega
        · refine ap_go kc_56_183 ?_
          refine ap_aload_n rfl ?_; refine ap_iload rfl ?_; refine ap_lload_n rfl ?_; refine ap_lload_n rfl ?_; refine ap_callv0 ow_56 rm_8_199 na_55 mc_55 ms_55 rfl rfl (Nat.le_of_ble_eq_true rfl) (Nat.le_of_ble_eq_true rfl) (Or.inr rfl) (Nat.zero_le _) (Nat.zero_le _) ?_; refine sp_55 ?_ ?_ ?_ ?_ ?_ ?_ ?_ ?_ ?_; dsimp only [Option.toList_some, Option.toList_none, List.cons_append, List.nil_append]; refine ap_goto rfl ?_
          · exact am_weak (by first | exact am_le_0 | (repeat (first | exact am_le_0 | refine am_le_n ?_ | refine am_le_s ?_))) (j197 _ (by rw [if_pos hft, ← ei']))
          all_goals (first | omega | assumption)
        all_goals (first | omega | assumption)
      ·
        refine ap_go kc_56_176 ?_
        refine ap_istore rfl ?_; refine ap_iload rfl ?_
        refine ai_ifeq rfl rfl (fun he0 => ?_) (fun he0 => ?_) ?_
        · refine ap_go kc_56_194 ?_
          refine ai_ldc2 (2501) ow_56 kl_8_203 rfl ?_; refine ap_nil ?_
          exact am_weak (by first | exact am_le_0 | (repeat (first | exact am_le_0 | refine am_le_n ?_ | refine am_le_s ?_))) (j197 2501 (if_neg hft).symm)
        · exfalso; omega
        all_goals (first | omega | assumption)
    have e1 : fitM f g h (k + 1) = fitMB (octZ (g 32 (f 36 i.toNat).toNat - g 32 (f 35 i.toNat).toNat) (g 33 (f 36 i.toNat).toNat - g 33 (f 35 i.toNat).toNat)) h := by rw [ei']
    refine ap_go kc_56_62 ?_
    refine ap_iload rfl ?_; refine ap_aload_n rfl ?_; refine ai_getI ow_56 rf_8_88 rfl rfl ?_
    refine ai_icgt rfl rfl (fun hc0 => ?_) (fun hc0 => ?_) ?_
    · exfalso; omega
    · refine ap_go kc_56_71 ?_
      refine ap_aload_n rfl ?_; refine ap_getR ow_56 rf_8_7 rfl rfl rfl ?_; refine ap_aload_n rfl ?_; refine ap_getR ow_56 rf_8_23 rfl rfl rfl ?_; refine ap_iload rfl ?_; refine ai_iaload (n := 121) rfl rfl (by decide) ?_ ?_; refine ai_laload (n := 61) rfl rfl (by decide) ?_ ?_; refine ap_aload_n rfl ?_; refine ap_getR ow_56 rf_8_7 rfl rfl rfl ?_; refine ap_aload_n rfl ?_; refine ap_getR ow_56 rf_8_19 rfl rfl rfl ?_; refine ap_iload rfl ?_; refine ai_iaload (n := 121) rfl rfl (by decide) ?_ ?_; refine ai_laload (n := 61) rfl rfl (by decide) ?_ ?_; refine ai_lsub ?_; refine ap_aload_n rfl ?_; refine ap_getR ow_56 rf_8_13 rfl rfl rfl ?_; refine ap_aload_n rfl ?_; refine ap_getR ow_56 rf_8_23 rfl rfl rfl ?_; refine ap_iload rfl ?_; refine ai_iaload (n := 121) rfl rfl (by decide) ?_ ?_; refine ai_laload (n := 61) rfl rfl (by decide) ?_ ?_; refine ap_aload_n rfl ?_; refine ap_getR ow_56 rf_8_13 rfl rfl rfl ?_; refine ap_aload_n rfl ?_; refine ap_getR ow_56 rf_8_19 rfl rfl rfl ?_; refine ap_iload rfl ?_; refine ai_iaload (n := 121) rfl rfl (by decide) ?_ ?_; refine ai_laload (n := 61) rfl rfl (by decide) ?_ ?_; refine ai_lsub ?_; refine ap_calls0 ow_56 rm_8_195 na_54 mc_54 ms_54 rfl rfl (Nat.le_of_ble_eq_true rfl) (Nat.le_of_ble_eq_true rfl) rfl (Nat.zero_le _) (Nat.zero_le _) ?_; refine sp_54 ?_ ?_ ?_; dsimp only [Option.toList_some, Option.toList_none, List.cons_append, List.nil_append]; refine ap_istore rfl ?_; refine ap_iload rfl ?_; refine ap_iload rfl ?_
      refine ai_icge rfl rfl (fun hc1 => ?_) (fun hc1 => ?_) ?_
      · refine ap_go kc_56_141 ?_
        refine ap_iload rfl ?_; refine ap_iload rfl ?_; refine ai_isub ?_; refine ap_nil ?_
        refine ap_go kc_56_146 ?_
        refine ap_istore rfl ?_; refine ap_iload rfl ?_
        refine ai_iflt rfl rfl (fun hc2 => ?_) (fun hc2 => ?_) ?_
        · refine ap_go kc_56_171 ?_
          refine ai_iconst ?_; refine ap_goto rfl ?_
          first | (refine am_weak (by first | exact am_le_0 | (repeat (first | exact am_le_0 | refine am_le_n ?_ | refine am_le_s ?_))) (j176 1 (Or.inl ⟨rfl, ?_⟩)); rw [e1]; unfold fitMB; simp only [Bool.or_eq_true, Bool.and_eq_true, decide_eq_true_eq]; split <;> omega) | (refine am_weak (by first | exact am_le_0 | (repeat (first | exact am_le_0 | refine am_le_n ?_ | refine am_le_s ?_))) (j176 0 (Or.inr ⟨rfl, ?_⟩)); rw [e1]; unfold fitMB; simp only [Bool.or_eq_true, Bool.and_eq_true, decide_eq_true_eq]; split <;> omega)
        · refine ap_go kc_56_153 ?_
          refine ap_iload rfl ?_
          refine ai_iflt rfl rfl (fun hc3 => ?_) (fun hc3 => ?_) ?_
          · refine ap_go kc_56_175 ?_
            refine ai_iconst ?_; refine ap_nil ?_
            first | (refine am_weak (by first | exact am_le_0 | (repeat (first | exact am_le_0 | refine am_le_n ?_ | refine am_le_s ?_))) (j176 1 (Or.inl ⟨rfl, ?_⟩)); rw [e1]; unfold fitMB; simp only [Bool.or_eq_true, Bool.and_eq_true, decide_eq_true_eq]; split <;> omega) | (refine am_weak (by first | exact am_le_0 | (repeat (first | exact am_le_0 | refine am_le_n ?_ | refine am_le_s ?_))) (j176 0 (Or.inr ⟨rfl, ?_⟩)); rw [e1]; unfold fitMB; simp only [Bool.or_eq_true, Bool.and_eq_true, decide_eq_true_eq]; split <;> omega)
          · refine ap_go kc_56_158 ?_
            refine ap_iload rfl ?_; refine ai_iconst ?_
            refine ai_iclt rfl rfl (fun hc4 => ?_) (fun hc4 => ?_) ?_
            · refine ap_go kc_56_171 ?_
              refine ai_iconst ?_; refine ap_goto rfl ?_
              first | (refine am_weak (by first | exact am_le_0 | (repeat (first | exact am_le_0 | refine am_le_n ?_ | refine am_le_s ?_))) (j176 1 (Or.inl ⟨rfl, ?_⟩)); rw [e1]; unfold fitMB; simp only [Bool.or_eq_true, Bool.and_eq_true, decide_eq_true_eq]; split <;> omega) | (refine am_weak (by first | exact am_le_0 | (repeat (first | exact am_le_0 | refine am_le_n ?_ | refine am_le_s ?_))) (j176 0 (Or.inr ⟨rfl, ?_⟩)); rw [e1]; unfold fitMB; simp only [Bool.or_eq_true, Bool.and_eq_true, decide_eq_true_eq]; split <;> omega)
            · refine ap_go kc_56_164 ?_
              refine ap_iload rfl ?_; refine ai_bipush (by decide) ?_
              refine ai_icne rfl rfl (fun hc5 => ?_) (fun hc5 => ?_) ?_
              · refine ap_go kc_56_175 ?_
                refine ai_iconst ?_; refine ap_nil ?_
                first | (refine am_weak (by first | exact am_le_0 | (repeat (first | exact am_le_0 | refine am_le_n ?_ | refine am_le_s ?_))) (j176 1 (Or.inl ⟨rfl, ?_⟩)); rw [e1]; unfold fitMB; simp only [Bool.or_eq_true, Bool.and_eq_true, decide_eq_true_eq]; split <;> omega) | (refine am_weak (by first | exact am_le_0 | (repeat (first | exact am_le_0 | refine am_le_n ?_ | refine am_le_s ?_))) (j176 0 (Or.inr ⟨rfl, ?_⟩)); rw [e1]; unfold fitMB; simp only [Bool.or_eq_true, Bool.and_eq_true, decide_eq_true_eq]; split <;> omega)
              · refine ap_go kc_56_171 ?_
                refine ai_iconst ?_; refine ap_goto rfl ?_
                first | (refine am_weak (by first | exact am_le_0 | (repeat (first | exact am_le_0 | refine am_le_n ?_ | refine am_le_s ?_))) (j176 1 (Or.inl ⟨rfl, ?_⟩)); rw [e1]; unfold fitMB; simp only [Bool.or_eq_true, Bool.and_eq_true, decide_eq_true_eq]; split <;> omega) | (refine am_weak (by first | exact am_le_0 | (repeat (first | exact am_le_0 | refine am_le_n ?_ | refine am_le_s ?_))) (j176 0 (Or.inr ⟨rfl, ?_⟩)); rw [e1]; unfold fitMB; simp only [Bool.or_eq_true, Bool.and_eq_true, decide_eq_true_eq]; split <;> omega)
              all_goals (first | omega | assumption)
            all_goals (first | omega | assumption)
          all_goals (first | omega | assumption)
        all_goals (first | omega | assumption)
      · refine ap_go kc_56_133 ?_
        refine ap_iload rfl ?_; refine ap_iload rfl ?_; refine ai_isub ?_; refine ap_goto rfl ?_
        refine ap_go kc_56_146 ?_
        refine ap_istore rfl ?_; refine ap_iload rfl ?_
        refine ai_iflt rfl rfl (fun hc6 => ?_) (fun hc6 => ?_) ?_
        · refine ap_go kc_56_171 ?_
          refine ai_iconst ?_; refine ap_goto rfl ?_
          first | (refine am_weak (by first | exact am_le_0 | (repeat (first | exact am_le_0 | refine am_le_n ?_ | refine am_le_s ?_))) (j176 1 (Or.inl ⟨rfl, ?_⟩)); rw [e1]; unfold fitMB; simp only [Bool.or_eq_true, Bool.and_eq_true, decide_eq_true_eq]; split <;> omega) | (refine am_weak (by first | exact am_le_0 | (repeat (first | exact am_le_0 | refine am_le_n ?_ | refine am_le_s ?_))) (j176 0 (Or.inr ⟨rfl, ?_⟩)); rw [e1]; unfold fitMB; simp only [Bool.or_eq_true, Bool.and_eq_true, decide_eq_true_eq]; split <;> omega)
        · refine ap_go kc_56_153 ?_
          refine ap_iload rfl ?_
          refine ai_iflt rfl rfl (fun hc7 => ?_) (fun hc7 => ?_) ?_
          · refine ap_go kc_56_175 ?_
            refine ai_iconst ?_; refine ap_nil ?_
            first | (refine am_weak (by first | exact am_le_0 | (repeat (first | exact am_le_0 | refine am_le_n ?_ | refine am_le_s ?_))) (j176 1 (Or.inl ⟨rfl, ?_⟩)); rw [e1]; unfold fitMB; simp only [Bool.or_eq_true, Bool.and_eq_true, decide_eq_true_eq]; split <;> omega) | (refine am_weak (by first | exact am_le_0 | (repeat (first | exact am_le_0 | refine am_le_n ?_ | refine am_le_s ?_))) (j176 0 (Or.inr ⟨rfl, ?_⟩)); rw [e1]; unfold fitMB; simp only [Bool.or_eq_true, Bool.and_eq_true, decide_eq_true_eq]; split <;> omega)
          · refine ap_go kc_56_158 ?_
            refine ap_iload rfl ?_; refine ai_iconst ?_
            refine ai_iclt rfl rfl (fun hc8 => ?_) (fun hc8 => ?_) ?_
            · refine ap_go kc_56_171 ?_
              refine ai_iconst ?_; refine ap_goto rfl ?_
              first | (refine am_weak (by first | exact am_le_0 | (repeat (first | exact am_le_0 | refine am_le_n ?_ | refine am_le_s ?_))) (j176 1 (Or.inl ⟨rfl, ?_⟩)); rw [e1]; unfold fitMB; simp only [Bool.or_eq_true, Bool.and_eq_true, decide_eq_true_eq]; split <;> omega) | (refine am_weak (by first | exact am_le_0 | (repeat (first | exact am_le_0 | refine am_le_n ?_ | refine am_le_s ?_))) (j176 0 (Or.inr ⟨rfl, ?_⟩)); rw [e1]; unfold fitMB; simp only [Bool.or_eq_true, Bool.and_eq_true, decide_eq_true_eq]; split <;> omega)
            · refine ap_go kc_56_164 ?_
              refine ap_iload rfl ?_; refine ai_bipush (by decide) ?_
              refine ai_icne rfl rfl (fun hc9 => ?_) (fun hc9 => ?_) ?_
              · refine ap_go kc_56_175 ?_
                refine ai_iconst ?_; refine ap_nil ?_
                first | (refine am_weak (by first | exact am_le_0 | (repeat (first | exact am_le_0 | refine am_le_n ?_ | refine am_le_s ?_))) (j176 1 (Or.inl ⟨rfl, ?_⟩)); rw [e1]; unfold fitMB; simp only [Bool.or_eq_true, Bool.and_eq_true, decide_eq_true_eq]; split <;> omega) | (refine am_weak (by first | exact am_le_0 | (repeat (first | exact am_le_0 | refine am_le_n ?_ | refine am_le_s ?_))) (j176 0 (Or.inr ⟨rfl, ?_⟩)); rw [e1]; unfold fitMB; simp only [Bool.or_eq_true, Bool.and_eq_true, decide_eq_true_eq]; split <;> omega)
              · refine ap_go kc_56_171 ?_
                refine ai_iconst ?_; refine ap_goto rfl ?_
                first | (refine am_weak (by first | exact am_le_0 | (repeat (first | exact am_le_0 | refine am_le_n ?_ | refine am_le_s ?_))) (j176 1 (Or.inl ⟨rfl, ?_⟩)); rw [e1]; unfold fitMB; simp only [Bool.or_eq_true, Bool.and_eq_true, decide_eq_true_eq]; split <;> omega) | (refine am_weak (by first | exact am_le_0 | (repeat (first | exact am_le_0 | refine am_le_n ?_ | refine am_le_s ?_))) (j176 0 (Or.inr ⟨rfl, ?_⟩)); rw [e1]; unfold fitMB; simp only [Bool.or_eq_true, Bool.and_eq_true, decide_eq_true_eq]; split <;> omega)
              all_goals (first | omega | assumption)
            all_goals (first | omega | assumption)
          all_goals (first | omega | assumption)
        all_goals (first | omega | assumption)
      all_goals (first | omega | assumption)
    all_goals (first | omega | assumption)
end
section
/-! THE FACE: at, cost, part, street of the class; snap, part, street of the reference -/
theorem sqM_in {f g : Nat → Nat → Int} {x y : Int} (hx : -20000 ≤ x ∧ x ≤ 20000) (hy : -20000 ≤ y ∧ y ≤ 20000) (hX : ∀ k, -10000 ≤ g 32 k ∧ g 32 k ≤ 10000) (hY : ∀ k, -10000 ≤ g 33 k ∧ g 33 k ≤ 10000) (s : Nat) : lR (sqM f g x y s) := by
  have a1 := hX (f 35 s).toNat
  have a2 := hX (f 36 s).toNat
  have a3 := hY (f 35 s).toNat
  have a4 := hY (f 36 s).toNat
  have := sqr_in (px := x - g 32 (f 35 s).toNat) (py := y - g 33 (f 35 s).toNat) (vx := eX f g s) (vy := eY f g s) (by omega) (by omega) (by unfold eX; omega) (by unfold eY; omega)
  rw [sq_same (qx := x - g 32 (f 36 s).toNat) (qy := y - g 33 (f 36 s).toNat) (by unfold eX; omega) (by unfold eY; omega)] at this
  exact ⟨Int.le_trans (by decide) this.1, this.2⟩

theorem sp_56 {d L : Nat} {sw : Bool} {f g : Nat → Nat → Int} {Q : Option Value → am_H → Prop} {f1 : Nat → Nat → Int} {x y h : Int} (hf : am_up f 31 0 0 = f1) (K1 : ¬ (-20000 ≤ x ∧ x ≤ 20000 ∧ -20000 ≤ y ∧ y ≤ 20000 ∧ -1 ≤ h ∧ h ≤ 7) → Q (some (.int (iZ (-2)))) (53, sh_lt L, iH f1, jH g, sh_rt sw)) (K2 : (-20000 ≤ x ∧ x ≤ 20000 ∧ -20000 ≤ y ∧ y ≤ 20000 ∧ -1 ≤ h ∧ h ≤ 7) → Q (some (.int (iZ ((snM (fitM f1 g h) (sqM f1 g x y) (f1 31 5).toNat).1)))) (53, sh_lt L, iH f1, jH g, sh_rt sw)) (hx : lR x) (hy : lR y) (hh : iR h) (hc : 0 ≤ f1 31 5 ∧ f1 31 5 ≤ 120) (hst : ∀ s : Nat, 1 ≤ s → (s : Int) ≤ f1 31 5 → (0 ≤ f1 35 s ∧ f1 35 s < 61) ∧ (0 ≤ f1 36 s ∧ f1 36 s < 61)) (hX : ∀ k, -10000 ≤ g 32 k ∧ g 32 k ≤ 10000) (hY : ∀ k, -10000 ≤ g 33 k ∧ g 33 k ≤ 10000) : am_call (d + 2) 56 [.ref 31, .long (lZ x), .long (lZ y), .int (iZ h)] (53, sh_lt L, iH f, jH g, sh_rt sw) Q := by
  refine ap_call (by decide) (Nat.le_of_ble_eq_true rfl) rfl ?_
  refine ap_go kc_56_0 ?_
  refine ap_aload_n rfl ?_; refine ai_iconst ?_; refine ai_putI ow_56 rf_8_82 rfl rfl rfl ?_
  rw [hf]
  refine ap_lload_n rfl ?_; refine ai_ldc2 (-20000) ow_56 kl_8_193 rfl ?_
  refine ai_lclt rfl rfl (fun hb0 => ?_) (fun hb0 => ?_) ?_
  · refine ap_go kc_56_50 ?_
    refine ai_bipush (by decide) ?_; refine ap_iret rfl ?_
    (try simp only [bz, Decidable.not_not] at *); first | exact K1  (by omega) | exact K2  (by omega)
  · refine ap_go kc_56_13 ?_
    refine ap_lload_n rfl ?_; refine ai_ldc2 (20000) ow_56 kl_8_103 rfl ?_
    refine ai_lcgt rfl rfl (fun hb1 => ?_) (fun hb1 => ?_) ?_
    · refine ap_go kc_56_50 ?_
      refine ai_bipush (by decide) ?_; refine ap_iret rfl ?_
      (try simp only [bz, Decidable.not_not] at *); first | exact K1  (by omega) | exact K2  (by omega)
    · refine ap_go kc_56_21 ?_
      refine ap_lload_n rfl ?_; refine ai_ldc2 (-20000) ow_56 kl_8_193 rfl ?_
      refine ai_lclt rfl rfl (fun hb2 => ?_) (fun hb2 => ?_) ?_
      · refine ap_go kc_56_50 ?_
        refine ai_bipush (by decide) ?_; refine ap_iret rfl ?_
        (try simp only [bz, Decidable.not_not] at *); first | exact K1  (by omega) | exact K2  (by omega)
      · refine ap_go kc_56_29 ?_
        refine ap_lload_n rfl ?_; refine ai_ldc2 (20000) ow_56 kl_8_103 rfl ?_
        refine ai_lcgt rfl rfl (fun hb3 => ?_) (fun hb3 => ?_) ?_
        · refine ap_go kc_56_50 ?_
          refine ai_bipush (by decide) ?_; refine ap_iret rfl ?_
          (try simp only [bz, Decidable.not_not] at *); first | exact K1  (by omega) | exact K2  (by omega)
        · refine ap_go kc_56_37 ?_
          refine ap_iload rfl ?_; refine ai_iconst ?_
          refine ai_iclt rfl rfl (fun hb4 => ?_) (fun hb4 => ?_) ?_
          · refine ap_go kc_56_50 ?_
            refine ai_bipush (by decide) ?_; refine ap_iret rfl ?_
            (try simp only [bz, Decidable.not_not] at *); first | exact K1  (by omega) | exact K2  (by omega)
          · refine ap_go kc_56_43 ?_
            refine ap_iload rfl ?_; refine ai_bipush (by decide) ?_
            refine ai_icle rfl rfl (fun hb5 => ?_) (fun hb5 => ?_) ?_
            · refine ap_go kc_56_53 ?_
              refine ai_iconst ?_; refine ap_istore rfl ?_; refine ai_lconst 0 rfl ?_; refine ap_lstore rfl ?_; refine ai_iconst ?_; refine ap_istore rfl ?_; refine ap_nil ?_
              exact am_weak (by first | exact am_le_0 | (repeat (first | exact am_le_0 | refine am_le_n ?_ | refine am_le_s ?_))) (lp_56 hc (by omega) (fun s a b => okM_of (by omega) (by omega) (hst s a b).1 (hst s a b).2 hX hY) (sqM_in (by omega) (by omega) hX hY) (K2 (by omega)) (f1 31 5).toNat 0 0 0 1 (by omega) rfl rfl rfl)
            · refine ap_go kc_56_50 ?_
              refine ai_bipush (by decide) ?_; refine ap_iret rfl ?_
              (try simp only [bz, Decidable.not_not] at *); first | exact K1  (by omega) | exact K2  (by omega)
            all_goals (omega)
          all_goals (omega)
        all_goals (omega)
      all_goals (omega)
    all_goals (omega)
  all_goals (omega)

theorem sp_6_f {d L : Nat} {f g : Nat → Nat → Int} {Q : Option Value → am_H → Prop} {i : Int} (K : Q (some (.int (iZ (if 0 ≤ i ∧ i < f 27 1 then (if 0 ≤ f 28 i.toNat then f 28 i.toNat else -f 28 i.toNat) else 0)))) (53, sh_lt L, iH f, jH g, sh_rt false)) (hi : iR i) (hs : 0 ≤ f 27 1 ∧ f 27 1 ≤ 2400) (hv : ∀ k, iR (f 28 k)) : am_call (d + 2) 6 [.ref 0, .int (iZ i)] (53, sh_lt L, iH f, jH g, sh_rt false) Q := by
  refine ap_call (by decide) (Nat.le_of_ble_eq_true rfl) rfl ?_
  refine ap_go kc_6_0 ?_
  refine ap_aload_n rfl ?_; refine ap_getR ow_6 rf_7_51 rfl rfl rfl ?_; refine ap_iload_n rfl ?_; refine ap_callv0 ow_6 rm_7_147 na_111 mc_111 ms_111 rfl rfl (Nat.le_of_ble_eq_true rfl) (Nat.le_of_ble_eq_true rfl) (Or.inr rfl) (Nat.zero_le _) (Nat.zero_le _) ?_; refine sp_111_27 ?_ ?_ ?_ ?_; dsimp only [Option.toList_some, Option.toList_none, List.cons_append, List.nil_append]; refine ap_iret rfl ?_
  · exact K
  all_goals (first | assumption | omega)
theorem sp_7_f {d L : Nat} {f g : Nat → Nat → Int} {Q : Option Value → am_H → Prop} (K1 : f 27 3 = 0 → Q (some (.long (lZ (-1)))) (53, sh_lt L, iH f, jH g, sh_rt false)) (K2 : ¬ f 27 3 = 0 → Q (some (.long (lZ (g 27 2)))) (53, sh_lt L, iH f, jH g, sh_rt false)) (hb : f 27 3 = 0 ∨ f 27 3 = 1) : am_call (d + 2) 7 [.ref 0] (53, sh_lt L, iH f, jH g, sh_rt false) Q := by
  refine ap_call (by decide) (Nat.le_of_ble_eq_true rfl) rfl ?_
  refine ap_go kc_7_0 ?_
  refine ap_aload_n rfl ?_; refine ap_getR ow_7 rf_7_51 rfl rfl rfl ?_; refine ap_callv0 ow_7 rm_7_150 na_108 mc_108 ms_108 rfl rfl (Nat.le_of_ble_eq_true rfl) (Nat.le_of_ble_eq_true rfl) (Or.inr rfl) (Nat.zero_le _) (Nat.zero_le _) ?_; refine sp_108_27 ?_ ?_; dsimp only [Option.toList_some, Option.toList_none, List.cons_append, List.nil_append]
  refine ai_ifeq rfl rfl (fun hc0 => ?_) (fun hc0 => ?_) ?_
  · refine ap_go kc_7_20 ?_
    refine ai_ldc2 (-1) ow_7 kl_7_157 rfl ?_; refine ap_nil ?_
    refine ap_go kc_7_23 ?_
    refine ap_lret rfl ?_
    first | exact K1 (by omega) | exact K2 (by omega)
  · refine ap_go kc_7_10 ?_
    refine ap_aload_n rfl ?_; refine ap_getR ow_7 rf_7_51 rfl rfl rfl ?_; refine ap_callv0 ow_7 rm_7_153 na_110 mc_110 ms_110 rfl rfl (Nat.le_of_ble_eq_true rfl) (Nat.le_of_ble_eq_true rfl) (Or.inr rfl) (Nat.zero_le _) (Nat.zero_le _) ?_; refine sp_110_27 ?_; dsimp only [Option.toList_some, Option.toList_none, List.cons_append, List.nil_append]; refine ap_goto rfl ?_
    refine ap_go kc_7_23 ?_
    refine ap_lret rfl ?_
    first | exact K1 (by omega) | exact K2 (by omega)
  all_goals (first | assumption | omega)

theorem sp_6_t {d L : Nat} {f g : Nat → Nat → Int} {Q : Option Value → am_H → Prop} {i : Int} (K : Q (some (.int (iZ (if 0 ≤ i ∧ i < f 29 1 then (if 0 ≤ f 30 i.toNat then f 30 i.toNat else -f 30 i.toNat) else 0)))) (53, sh_lt L, iH f, jH g, sh_rt true)) (hi : iR i) (hs : 0 ≤ f 29 1 ∧ f 29 1 ≤ 2400) (hv : ∀ k, iR (f 30 k)) : am_call (d + 2) 6 [.ref 0, .int (iZ i)] (53, sh_lt L, iH f, jH g, sh_rt true) Q := by
  refine ap_call (by decide) (Nat.le_of_ble_eq_true rfl) rfl ?_
  refine ap_go kc_6_0 ?_
  refine ap_aload_n rfl ?_; refine ap_getR ow_6 rf_7_51 rfl rfl rfl ?_; refine ap_iload_n rfl ?_; refine ap_callv0 ow_6 rm_7_147 na_111 mc_111 ms_111 rfl rfl (Nat.le_of_ble_eq_true rfl) (Nat.le_of_ble_eq_true rfl) (Or.inr rfl) (Nat.zero_le _) (Nat.zero_le _) ?_; refine sp_111_29 ?_ ?_ ?_ ?_; dsimp only [Option.toList_some, Option.toList_none, List.cons_append, List.nil_append]; refine ap_iret rfl ?_
  · exact K
  all_goals (first | assumption | omega)
theorem sp_7_t {d L : Nat} {f g : Nat → Nat → Int} {Q : Option Value → am_H → Prop} (K1 : f 29 3 = 0 → Q (some (.long (lZ (-1)))) (53, sh_lt L, iH f, jH g, sh_rt true)) (K2 : ¬ f 29 3 = 0 → Q (some (.long (lZ (g 29 2)))) (53, sh_lt L, iH f, jH g, sh_rt true)) (hb : f 29 3 = 0 ∨ f 29 3 = 1) : am_call (d + 2) 7 [.ref 0] (53, sh_lt L, iH f, jH g, sh_rt true) Q := by
  refine ap_call (by decide) (Nat.le_of_ble_eq_true rfl) rfl ?_
  refine ap_go kc_7_0 ?_
  refine ap_aload_n rfl ?_; refine ap_getR ow_7 rf_7_51 rfl rfl rfl ?_; refine ap_callv0 ow_7 rm_7_150 na_108 mc_108 ms_108 rfl rfl (Nat.le_of_ble_eq_true rfl) (Nat.le_of_ble_eq_true rfl) (Or.inr rfl) (Nat.zero_le _) (Nat.zero_le _) ?_; refine sp_108_29 ?_ ?_; dsimp only [Option.toList_some, Option.toList_none, List.cons_append, List.nil_append]
  refine ai_ifeq rfl rfl (fun hc0 => ?_) (fun hc0 => ?_) ?_
  · refine ap_go kc_7_20 ?_
    refine ai_ldc2 (-1) ow_7 kl_7_157 rfl ?_; refine ap_nil ?_
    refine ap_go kc_7_23 ?_
    refine ap_lret rfl ?_
    first | exact K1 (by omega) | exact K2 (by omega)
  · refine ap_go kc_7_10 ?_
    refine ap_aload_n rfl ?_; refine ap_getR ow_7 rf_7_51 rfl rfl rfl ?_; refine ap_callv0 ow_7 rm_7_153 na_110 mc_110 ms_110 rfl rfl (Nat.le_of_ble_eq_true rfl) (Nat.le_of_ble_eq_true rfl) (Or.inr rfl) (Nat.zero_le _) (Nat.zero_le _) ?_; refine sp_110_29 ?_; dsimp only [Option.toList_some, Option.toList_none, List.cons_append, List.nil_append]; refine ap_goto rfl ?_
    refine ap_go kc_7_23 ?_
    refine ap_lret rfl ?_
    first | exact K1 (by omega) | exact K2 (by omega)
  all_goals (first | assumption | omega)

theorem sp_2 {d L : Nat} {sw : Bool} {f g : Nat → Nat → Int} {Q : Option Value → am_H → Prop} {a b m v c : Int} (K1 : ¬ (1 ≤ a ∧ a ≤ f 1 3 ∧ 1 ≤ b ∧ b ≤ f 1 3) → Q (some (.int (iZ (-1)))) (53, sh_lt L, iH f, jH g, sh_rt sw)) (K2 : (1 ≤ a ∧ a ≤ f 1 3 ∧ 1 ≤ b ∧ b ≤ f 1 3) ∧ ¬ (¬ a = b ∧ 1 ≤ m ∧ m ≤ 100000 ∧ 0 ≤ v ∧ v ≤ 1000 ∧ 0 ≤ c ∧ c ≤ 3) → Q (some (.int (iZ (-2)))) (53, sh_lt L, iH f, jH g, sh_rt sw)) (K3 : (1 ≤ a ∧ a ≤ f 1 3 ∧ 1 ≤ b ∧ b ≤ f 1 3) ∧ (¬ a = b ∧ 1 ≤ m ∧ m ≤ 100000 ∧ 0 ≤ v ∧ v ≤ 1000 ∧ 0 ≤ c ∧ c ≤ 3) ∧ f 5 8 = 120 → Q (some (.int (iZ (-4)))) (53, sh_lt L, iH f, jH g, sh_rt sw)) (K4 : (1 ≤ a ∧ a ≤ f 1 3 ∧ 1 ≤ b ∧ b ≤ f 1 3) ∧ (¬ a = b ∧ 1 ≤ m ∧ m ≤ 100000 ∧ 0 ≤ v ∧ v ≤ 1000 ∧ 0 ≤ c ∧ c ≤ 3) ∧ f 5 8 < 120 ∧ ¬ v = 0 → Q (some (.int (iZ (f 5 8 + 1)))) (53, sh_lt L, iH (am_up (am_up (am_up (am_up f 5 8 (f 5 8 + 1)) 6 (f 5 8 + 1).toNat a) 7 (f 5 8 + 1).toNat b) 10 (f 5 8 + 1).toNat c), jH (am_up (am_up g 8 (f 5 8 + 1).toNat m) 9 (f 5 8 + 1).toNat v), sh_rt sw)) (ha : iR a) (hb : iR b) (hm : lR m) (hv : lR v) (hcc : iR c) (hc : 0 ≤ f 1 3 ∧ f 1 3 ≤ 60) (hs : 0 ≤ f 5 8 ∧ f 5 8 ≤ 120) (hnt : ¬ ((1 ≤ a ∧ a ≤ f 1 3 ∧ 1 ≤ b ∧ b ≤ f 1 3) ∧ (¬ a = b ∧ 1 ≤ m ∧ m ≤ 100000 ∧ 0 ≤ v ∧ v ≤ 1000 ∧ 0 ≤ c ∧ c ≤ 3) ∧ f 5 8 < 120 ∧ v = 0)) : am_call (d + 2) 2 [.ref 0, .int (iZ a), .int (iZ b), .long (lZ m), .long (lZ v), .int (iZ c)] (53, sh_lt L, iH f, jH g, sh_rt sw) Q := by
  refine ap_call (by decide) (Nat.le_of_ble_eq_true rfl) rfl ?_
  refine ap_go kc_2_0 ?_
  refine ap_aload_n rfl ?_; refine ap_getR ow_2 rf_7_14 rfl rfl rfl ?_; refine ap_iload_n rfl ?_; refine ap_callv0 ow_2 rm_7_84 na_82 mc_82 ms_82 rfl rfl (Nat.le_of_ble_eq_true rfl) (Nat.le_of_ble_eq_true rfl) (Or.inr rfl) (Nat.zero_le _) (Nat.zero_le _) ?_; refine sp_82 ?_ ?_ ?_; dsimp only [Option.toList_some, Option.toList_none, List.cons_append, List.nil_append]
  refine ai_ifeq rfl rfl (fun hb0 => ?_) (fun hb0 => ?_) ?_
  · refine ap_go kc_2_22 ?_
    refine ai_iconst ?_; refine ap_iret rfl ?_
    (try simp only [bz, Decidable.not_not] at *); first | exact K1  (by omega) | exact K2  (by omega) | exact K3  (by omega) | exact K4  (by omega)
  · refine ap_go kc_2_11 ?_
    refine ap_aload_n rfl ?_; refine ap_getR ow_2 rf_7_14 rfl rfl rfl ?_; refine ap_iload_n rfl ?_; refine ap_callv0 ow_2 rm_7_84 na_82 mc_82 ms_82 rfl rfl (Nat.le_of_ble_eq_true rfl) (Nat.le_of_ble_eq_true rfl) (Or.inr rfl) (Nat.zero_le _) (Nat.zero_le _) ?_; refine sp_82 ?_ ?_ ?_; dsimp only [Option.toList_some, Option.toList_none, List.cons_append, List.nil_append]
    refine ai_ifne rfl rfl (fun hb1 => ?_) (fun hb1 => ?_) ?_
    · refine ap_go kc_2_24 ?_
      refine ap_iload_n rfl ?_; refine ap_iload_n rfl ?_
      refine ai_iceq rfl rfl (fun hb2 => ?_) (fun hb2 => ?_) ?_
      · refine ap_go kc_2_43 ?_
        refine ai_bipush (by decide) ?_; refine ap_iret rfl ?_
        (try simp only [bz, Decidable.not_not] at *); first | exact K1  (by omega) | exact K2  (by omega) | exact K3  (by omega) | exact K4  (by omega)
      · refine ap_go kc_2_29 ?_
        refine ap_lload_n rfl ?_; refine ai_lconst 1 rfl ?_
        refine ai_lclt rfl rfl (fun hb3 => ?_) (fun hb3 => ?_) ?_
        · refine ap_go kc_2_43 ?_
          refine ai_bipush (by decide) ?_; refine ap_iret rfl ?_
          (try simp only [bz, Decidable.not_not] at *); first | exact K1  (by omega) | exact K2  (by omega) | exact K3  (by omega) | exact K4  (by omega)
        · refine ap_go kc_2_35 ?_
          refine ap_lload_n rfl ?_; refine ai_ldc2 (100000) ow_2 kl_7_88 rfl ?_
          refine ai_lcle rfl rfl (fun hb4 => ?_) (fun hb4 => ?_) ?_
          · refine ap_go kc_2_46 ?_
            refine ap_lload rfl ?_; refine ai_lconst 0 rfl ?_
            refine ai_lclt rfl rfl (fun hb5 => ?_) (fun hb5 => ?_) ?_
            · refine ap_go kc_2_73 ?_
              refine ai_bipush (by decide) ?_; refine ap_iret rfl ?_
              (try simp only [bz, Decidable.not_not] at *); first | exact K1  (by omega) | exact K2  (by omega) | exact K3  (by omega) | exact K4  (by omega)
            · refine ap_go kc_2_53 ?_
              refine ap_lload rfl ?_; refine ai_ldc2 (1000) ow_2 kl_7_90 rfl ?_
              refine ai_lcgt rfl rfl (fun hb6 => ?_) (fun hb6 => ?_) ?_
              · refine ap_go kc_2_73 ?_
                refine ai_bipush (by decide) ?_; refine ap_iret rfl ?_
                (try simp only [bz, Decidable.not_not] at *); first | exact K1  (by omega) | exact K2  (by omega) | exact K3  (by omega) | exact K4  (by omega)
              · refine ap_go kc_2_62 ?_
                refine ap_iload rfl ?_
                refine ai_iflt rfl rfl (fun hb7 => ?_) (fun hb7 => ?_) ?_
                · refine ap_go kc_2_73 ?_
                  refine ai_bipush (by decide) ?_; refine ap_iret rfl ?_
                  (try simp only [bz, Decidable.not_not] at *); first | exact K1  (by omega) | exact K2  (by omega) | exact K3  (by omega) | exact K4  (by omega)
                · refine ap_go kc_2_67 ?_
                  refine ap_iload rfl ?_; refine ai_iconst ?_
                  refine ai_icle rfl rfl (fun hb8 => ?_) (fun hb8 => ?_) ?_
                  · refine ap_go kc_2_76 ?_
                    refine ap_aload_n rfl ?_; refine ap_getR ow_2 rf_7_21 rfl rfl rfl ?_; refine ap_callv0 ow_2 rm_7_92 na_95 mc_95 ms_95 rfl rfl (Nat.le_of_ble_eq_true rfl) (Nat.le_of_ble_eq_true rfl) (Or.inr rfl) (Nat.zero_le _) (Nat.zero_le _) ?_; refine sp_95 ?_ ?_; dsimp only [Option.toList_some, Option.toList_none, List.cons_append, List.nil_append]
                    refine ai_ifeq rfl rfl (fun hb9 => ?_) (fun hb9 => ?_) ?_
                    · refine ap_go kc_2_89 ?_
                      refine ap_lload rfl ?_; refine ai_lconst 0 rfl ?_
                      refine ai_lcne rfl rfl (fun hb10 => ?_) (fun hb10 => ?_) ?_
                      · refine ap_go kc_2_106 ?_
                        refine ap_aload_n rfl ?_; refine ap_getR ow_2 rf_7_21 rfl rfl rfl ?_; refine ap_iload_n rfl ?_; refine ap_iload_n rfl ?_; refine ap_lload_n rfl ?_; refine ap_lload rfl ?_; refine ap_iload rfl ?_; refine ap_callv0 ow_2 rm_7_100 na_96 mc_96 ms_96 rfl rfl (Nat.le_of_ble_eq_true rfl) (Nat.le_of_ble_eq_true rfl) (Or.inr rfl) (Nat.zero_le _) (Nat.zero_le _) ?_; refine sp_96 ?_ ?_; dsimp only [Option.toList_some, Option.toList_none, List.cons_append, List.nil_append]; refine ap_iret rfl ?_
                        · (try simp only [bz, Decidable.not_not] at *); first | exact K1  (by omega) | exact K2  (by omega) | exact K3  (by omega) | exact K4  (by omega)
                        all_goals (first | omega | (split <;> omega) | (simp only [bz, Decidable.not_not] at *; omega))
                      · exfalso; (try simp only [bz, Decidable.not_not] at *); omega
                      all_goals (first | omega | (split <;> omega) | (simp only [bz, Decidable.not_not] at *; omega))
                    · refine ap_go kc_2_86 ?_
                      refine ai_bipush (by decide) ?_; refine ap_iret rfl ?_
                      (try simp only [bz, Decidable.not_not] at *); first | exact K1  (by omega) | exact K2  (by omega) | exact K3  (by omega) | exact K4  (by omega)
                    all_goals (first | omega | (split <;> omega) | (simp only [bz, Decidable.not_not] at *; omega))
                  · refine ap_go kc_2_73 ?_
                    refine ai_bipush (by decide) ?_; refine ap_iret rfl ?_
                    (try simp only [bz, Decidable.not_not] at *); first | exact K1  (by omega) | exact K2  (by omega) | exact K3  (by omega) | exact K4  (by omega)
                  all_goals (first | omega | (split <;> omega) | (simp only [bz, Decidable.not_not] at *; omega))
                all_goals (first | omega | (split <;> omega) | (simp only [bz, Decidable.not_not] at *; omega))
              all_goals (first | omega | (split <;> omega) | (simp only [bz, Decidable.not_not] at *; omega))
            all_goals (first | omega | (split <;> omega) | (simp only [bz, Decidable.not_not] at *; omega))
          · refine ap_go kc_2_43 ?_
            refine ai_bipush (by decide) ?_; refine ap_iret rfl ?_
            (try simp only [bz, Decidable.not_not] at *); first | exact K1  (by omega) | exact K2  (by omega) | exact K3  (by omega) | exact K4  (by omega)
          all_goals (first | omega | (split <;> omega) | (simp only [bz, Decidable.not_not] at *; omega))
        all_goals (first | omega | (split <;> omega) | (simp only [bz, Decidable.not_not] at *; omega))
      all_goals (first | omega | (split <;> omega) | (simp only [bz, Decidable.not_not] at *; omega))
    · refine ap_go kc_2_22 ?_
      refine ai_iconst ?_; refine ap_iret rfl ?_
      (try simp only [bz, Decidable.not_not] at *); first | exact K1  (by omega) | exact K2  (by omega) | exact K3  (by omega) | exact K4  (by omega)
    all_goals (first | omega | (split <;> omega) | (simp only [bz, Decidable.not_not] at *; omega))
  all_goals (first | omega | (split <;> omega) | (simp only [bz, Decidable.not_not] at *; omega))

theorem sp_29 {d L : Nat} {sw : Bool} {f g : Nat → Nat → Int} {Q : Option Value → am_H → Prop} {f1 : Nat → Nat → Int} {a b m v c : Int} (hf : am_up f 31 0 0 = f1) (K1 : ¬ (1 ≤ a ∧ a ≤ f1 31 1 ∧ 1 ≤ b ∧ b ≤ f1 31 1) → Q (some (.int (iZ (-1)))) (53, sh_lt L, iH f1, jH g, sh_rt sw)) (K2 : (1 ≤ a ∧ a ≤ f1 31 1 ∧ 1 ≤ b ∧ b ≤ f1 31 1) ∧ ¬ (¬ a = b ∧ 1 ≤ m ∧ m ≤ 100000 ∧ 0 ≤ v ∧ v ≤ 1000 ∧ 0 ≤ c ∧ c ≤ 3) → Q (some (.int (iZ (-2)))) (53, sh_lt L, iH f1, jH g, sh_rt sw)) (K3 : (1 ≤ a ∧ a ≤ f1 31 1 ∧ 1 ≤ b ∧ b ≤ f1 31 1) ∧ (¬ a = b ∧ 1 ≤ m ∧ m ≤ 100000 ∧ 0 ≤ v ∧ v ≤ 1000 ∧ 0 ≤ c ∧ c ≤ 3) ∧ f1 31 5 = 120 → Q (some (.int (iZ (-4)))) (53, sh_lt L, iH f1, jH g, sh_rt sw)) (K4 : (1 ≤ a ∧ a ≤ f1 31 1 ∧ 1 ≤ b ∧ b ≤ f1 31 1) ∧ (¬ a = b ∧ 1 ≤ m ∧ m ≤ 100000 ∧ 0 ≤ v ∧ v ≤ 1000 ∧ 0 ≤ c ∧ c ≤ 3) ∧ f1 31 5 < 120 ∧ v = 0 → Q (some (.int (iZ (0)))) (53, sh_lt L, iH (am_up f1 31 0 1), jH g, sh_rt sw)) (K5 : (1 ≤ a ∧ a ≤ f1 31 1 ∧ 1 ≤ b ∧ b ≤ f1 31 1) ∧ (¬ a = b ∧ 1 ≤ m ∧ m ≤ 100000 ∧ 0 ≤ v ∧ v ≤ 1000 ∧ 0 ≤ c ∧ c ≤ 3) ∧ f1 31 5 < 120 ∧ ¬ v = 0 → Q (some (.int (iZ (f1 31 5 + 1)))) (53, sh_lt L, iH (am_up (am_up (am_up (am_up f1 31 5 (f1 31 5 + 1)) 35 (f1 31 5 + 1).toNat a) 36 (f1 31 5 + 1).toNat b) 39 (f1 31 5 + 1).toNat (1 + (m + m * c) / 20000)), jH (am_up (am_up (am_up g 37 (f1 31 5 + 1).toNat m) 38 (f1 31 5 + 1).toNat v) 41 (f1 31 5 + 1).toNat (-1)), sh_rt sw)) (ha : iR a) (hb : iR b) (hm : lR m) (hv : lR v) (hcc : iR c) (hc : 0 ≤ f1 31 1 ∧ f1 31 1 ≤ 60) (hs : 0 ≤ f1 31 5 ∧ f1 31 5 ≤ 120) (hmc : 0 ≤ c → c ≤ 3 → 0 ≤ m → m ≤ 100000 → 0 ≤ m * c ∧ m * c ≤ 300000) : am_call (d + 2) 29 [.ref 31, .int (iZ a), .int (iZ b), .long (lZ m), .long (lZ v), .int (iZ c)] (53, sh_lt L, iH f, jH g, sh_rt sw) Q := by
  have hz0 : f1 31 0 = 0 := by rw [← hf]; simp [am_up]
  have hz : am_up f1 31 0 0 = f1 := by rw [show (0 : Int) = f1 31 0 from hz0.symm]; exact up_id
  refine ap_call (by decide) (Nat.le_of_ble_eq_true rfl) rfl ?_
  refine ap_go kc_29_0 ?_
  refine ap_aload_n rfl ?_; refine ai_iconst ?_; refine ai_putI ow_29 rf_8_82 rfl rfl rfl ?_
  rw [hf]
  refine ap_aload_n rfl ?_; refine ap_iload_n rfl ?_; refine ap_callv0 ow_29 rm_8_95 na_26 mc_26 ms_26 rfl rfl (Nat.le_of_ble_eq_true rfl) (Nat.le_of_ble_eq_true rfl) (Or.inr rfl) (Nat.zero_le _) (Nat.zero_le _) ?_; refine sp_26 ?_ ?_ ?_; dsimp only [Option.toList_some, Option.toList_none, List.cons_append, List.nil_append]
  refine ai_ifne rfl rfl (fun hb0 => ?_) (fun hb0 => ?_) ?_
  · refine ap_go kc_29_21 ?_
    refine ai_iconst ?_; refine ap_iret rfl ?_
    (try simp only [bz, Decidable.not_not] at *); first | (exfalso; omega) | first | exact K1  (by omega) | exact K2  (by omega) | exact K3  (by omega) | exact K4  (by omega) | exact K5  (by omega)
  · refine ap_go kc_29_13 ?_
    refine ap_aload_n rfl ?_; refine ap_iload_n rfl ?_; refine ap_callv0 ow_29 rm_8_95 na_26 mc_26 ms_26 rfl rfl (Nat.le_of_ble_eq_true rfl) (Nat.le_of_ble_eq_true rfl) (Or.inr rfl) (Nat.zero_le _) (Nat.zero_le _) ?_; refine sp_26 ?_ ?_ ?_; dsimp only [Option.toList_some, Option.toList_none, List.cons_append, List.nil_append]
    refine ai_ifeq rfl rfl (fun hb1 => ?_) (fun hb1 => ?_) ?_
    · refine ap_go kc_29_23 ?_
      refine ap_iload_n rfl ?_; refine ap_iload_n rfl ?_
      refine ai_iceq rfl rfl (fun hb2 => ?_) (fun hb2 => ?_) ?_
      · refine ap_go kc_29_69 ?_
        refine ai_bipush (by decide) ?_; refine ap_iret rfl ?_
        (try simp only [bz, Decidable.not_not] at *); first | (exfalso; omega) | first | exact K1  (by omega) | exact K2  (by omega) | exact K3  (by omega) | exact K4  (by omega) | exact K5  (by omega)
      · refine ap_go kc_29_28 ?_
        refine ap_lload_n rfl ?_; refine ai_lconst 1 rfl ?_
        refine ai_lclt rfl rfl (fun hb3 => ?_) (fun hb3 => ?_) ?_
        · refine ap_go kc_29_69 ?_
          refine ai_bipush (by decide) ?_; refine ap_iret rfl ?_
          (try simp only [bz, Decidable.not_not] at *); first | (exfalso; omega) | first | exact K1  (by omega) | exact K2  (by omega) | exact K3  (by omega) | exact K4  (by omega) | exact K5  (by omega)
        · refine ap_go kc_29_34 ?_
          refine ap_lload_n rfl ?_; refine ai_ldc2 (100000) ow_29 kl_8_99 rfl ?_
          refine ai_lcgt rfl rfl (fun hb4 => ?_) (fun hb4 => ?_) ?_
          · refine ap_go kc_29_69 ?_
            refine ai_bipush (by decide) ?_; refine ap_iret rfl ?_
            (try simp only [bz, Decidable.not_not] at *); first | (exfalso; omega) | first | exact K1  (by omega) | exact K2  (by omega) | exact K3  (by omega) | exact K4  (by omega) | exact K5  (by omega)
          · refine ap_go kc_29_42 ?_
            refine ap_lload rfl ?_; refine ai_lconst 0 rfl ?_
            refine ai_lclt rfl rfl (fun hb5 => ?_) (fun hb5 => ?_) ?_
            · refine ap_go kc_29_69 ?_
              refine ai_bipush (by decide) ?_; refine ap_iret rfl ?_
              (try simp only [bz, Decidable.not_not] at *); first | (exfalso; omega) | first | exact K1  (by omega) | exact K2  (by omega) | exact K3  (by omega) | exact K4  (by omega) | exact K5  (by omega)
            · refine ap_go kc_29_49 ?_
              refine ap_lload rfl ?_; refine ai_ldc2 (1000) ow_29 kl_8_101 rfl ?_
              refine ai_lcgt rfl rfl (fun hb6 => ?_) (fun hb6 => ?_) ?_
              · refine ap_go kc_29_69 ?_
                refine ai_bipush (by decide) ?_; refine ap_iret rfl ?_
                (try simp only [bz, Decidable.not_not] at *); first | (exfalso; omega) | first | exact K1  (by omega) | exact K2  (by omega) | exact K3  (by omega) | exact K4  (by omega) | exact K5  (by omega)
              · refine ap_go kc_29_58 ?_
                refine ap_iload rfl ?_
                refine ai_iflt rfl rfl (fun hb7 => ?_) (fun hb7 => ?_) ?_
                · refine ap_go kc_29_69 ?_
                  refine ai_bipush (by decide) ?_; refine ap_iret rfl ?_
                  (try simp only [bz, Decidable.not_not] at *); first | (exfalso; omega) | first | exact K1  (by omega) | exact K2  (by omega) | exact K3  (by omega) | exact K4  (by omega) | exact K5  (by omega)
                · refine ap_go kc_29_63 ?_
                  refine ap_iload rfl ?_; refine ai_iconst ?_
                  refine ai_icle rfl rfl (fun hb8 => ?_) (fun hb8 => ?_) ?_
                  · refine ap_go kc_29_72 ?_
                    refine ap_aload_n rfl ?_; refine ai_getI ow_29 rf_8_88 rfl rfl ?_; refine ai_bipush (by decide) ?_
                    refine ai_icne rfl rfl (fun hb9 => ?_) (fun hb9 => ?_) ?_
                    · refine ap_go kc_29_84 ?_
                      refine ap_aload_n rfl ?_; refine ap_lload rfl ?_; refine ai_lconst 0 rfl ?_
                      refine ai_lcne rfl rfl (fun hb10 => ?_) (fun hb10 => ?_) ?_
                      · refine ap_go kc_29_96 ?_
                        refine ai_iconst ?_; refine ap_nil ?_
                        refine ap_go kc_29_97 ?_
                        refine ai_putI ow_29 rf_8_82 rfl rfl rfl ?_; refine ap_aload_n rfl ?_; refine ai_getI ow_29 rf_8_82 rfl rfl ?_
                        first | rw [hz, hz0] | rw [show am_up f1 31 0 1 31 0 = 1 by simp [am_up]]
                        refine ai_ifle rfl rfl (fun hb11 => ?_) (fun hb11 => ?_) ?_
                        · refine ap_go kc_29_109 ?_
                          refine ap_aload_n rfl ?_; refine ap_dup rfl ?_; refine ai_getI ow_29 rf_8_88 rfl rfl ?_; refine ai_iconst ?_; refine ai_iadd ?_; refine ai_putI ow_29 rf_8_88 rfl rfl rfl ?_; refine ap_aload_n rfl ?_; refine ap_getR ow_29 rf_8_19 rfl rfl rfl ?_; refine ap_aload_n rfl ?_; refine ai_getI ow_29 rf_8_88 rfl rfl ?_; refine ap_iload_n rfl ?_; refine ai_iastore (n := 121) rfl rfl (by decide) ?_ ?_; refine ap_aload_n rfl ?_; refine ap_getR ow_29 rf_8_23 rfl rfl rfl ?_; refine ap_aload_n rfl ?_; refine ai_getI ow_29 rf_8_88 rfl rfl ?_; refine ap_iload_n rfl ?_; refine ai_iastore (n := 121) rfl rfl (by decide) ?_ ?_; refine ap_aload_n rfl ?_; refine ap_getR ow_29 rf_8_26 rfl rfl rfl ?_; refine ap_aload_n rfl ?_; refine ai_getI ow_29 rf_8_88 rfl rfl ?_; refine ap_lload_n rfl ?_; refine ai_lastore (n := 121) rfl rfl (by decide) ?_ ?_; refine ap_aload_n rfl ?_; refine ap_getR ow_29 rf_8_29 rfl rfl rfl ?_; refine ap_aload_n rfl ?_; refine ai_getI ow_29 rf_8_88 rfl rfl ?_; refine ap_lload rfl ?_; refine ai_lastore (n := 121) rfl rfl (by decide) ?_ ?_; refine ap_aload_n rfl ?_; refine ap_getR ow_29 rf_8_32 rfl rfl rfl ?_; refine ap_aload_n rfl ?_; refine ai_getI ow_29 rf_8_88 rfl rfl ?_; refine ai_lconst 1 rfl ?_; refine ap_lload_n rfl ?_; refine ap_lload_n rfl ?_; refine ap_iload rfl ?_; refine ai_i2l ?_ ?_; refine ai_lmul ?_; refine ai_ladd ?_; refine ai_ldc2 (20000) ow_29 kl_8_103 rfl ?_; refine ai_ldiv ?_ ?_; refine ai_ladd ?_; refine ai_l2i ?_; refine ai_iastore (n := 121) rfl rfl (by decide) ?_ ?_; refine ap_aload_n rfl ?_; refine ap_getR ow_29 rf_8_38 rfl rfl rfl ?_; refine ap_aload_n rfl ?_; refine ai_getI ow_29 rf_8_88 rfl rfl ?_; refine ai_ldc2 (-1) ow_29 kl_8_64 rfl ?_; refine ai_lastore (n := 121) rfl rfl (by decide) ?_ ?_; refine ap_aload_n rfl ?_; refine ai_getI ow_29 rf_8_88 rfl rfl ?_; refine ap_iret rfl ?_
                          · (try simp only [bz, Decidable.not_not] at *); first | (exfalso; omega) | first | exact K1  (by omega) | exact K2  (by omega) | exact K3  (by omega) | exact K4  (by omega) | exact K5  (by omega)
                          all_goals (first | omega | (simp [am_up] <;> omega) | (split <;> omega) | (simp only [bz, Decidable.not_not] at *; omega) | (simp only [bz, Decidable.not_not] at *; simp [am_up] <;> omega))
                        · refine ap_go kc_29_107 ?_
                          refine ai_iconst ?_; refine ap_iret rfl ?_
                          (try simp only [bz, Decidable.not_not] at *); first | (exfalso; omega) | first | exact K1  (by omega) | exact K2  (by omega) | exact K3  (by omega) | exact K4  (by omega) | exact K5  (by omega)
                        all_goals (first | omega | (simp [am_up] <;> omega) | (split <;> omega) | (simp only [bz, Decidable.not_not] at *; omega) | (simp only [bz, Decidable.not_not] at *; simp [am_up] <;> omega))
                      · refine ap_go kc_29_92 ?_
                        refine ai_iconst ?_; refine ap_goto rfl ?_
                        refine ap_go kc_29_97 ?_
                        refine ai_putI ow_29 rf_8_82 rfl rfl rfl ?_; refine ap_aload_n rfl ?_; refine ai_getI ow_29 rf_8_82 rfl rfl ?_
                        first | rw [hz, hz0] | rw [show am_up f1 31 0 1 31 0 = 1 by simp [am_up]]
                        refine ai_ifle rfl rfl (fun hb12 => ?_) (fun hb12 => ?_) ?_
                        · refine ap_go kc_29_109 ?_
                          refine ap_aload_n rfl ?_; refine ap_dup rfl ?_; refine ai_getI ow_29 rf_8_88 rfl rfl ?_; refine ai_iconst ?_; refine ai_iadd ?_; refine ai_putI ow_29 rf_8_88 rfl rfl rfl ?_; refine ap_aload_n rfl ?_; refine ap_getR ow_29 rf_8_19 rfl rfl rfl ?_; refine ap_aload_n rfl ?_; refine ai_getI ow_29 rf_8_88 rfl rfl ?_; refine ap_iload_n rfl ?_; refine ai_iastore (n := 121) rfl rfl (by decide) ?_ ?_; refine ap_aload_n rfl ?_; refine ap_getR ow_29 rf_8_23 rfl rfl rfl ?_; refine ap_aload_n rfl ?_; refine ai_getI ow_29 rf_8_88 rfl rfl ?_; refine ap_iload_n rfl ?_; refine ai_iastore (n := 121) rfl rfl (by decide) ?_ ?_; refine ap_aload_n rfl ?_; refine ap_getR ow_29 rf_8_26 rfl rfl rfl ?_; refine ap_aload_n rfl ?_; refine ai_getI ow_29 rf_8_88 rfl rfl ?_; refine ap_lload_n rfl ?_; refine ai_lastore (n := 121) rfl rfl (by decide) ?_ ?_; refine ap_aload_n rfl ?_; refine ap_getR ow_29 rf_8_29 rfl rfl rfl ?_; refine ap_aload_n rfl ?_; refine ai_getI ow_29 rf_8_88 rfl rfl ?_; refine ap_lload rfl ?_; refine ai_lastore (n := 121) rfl rfl (by decide) ?_ ?_; refine ap_aload_n rfl ?_; refine ap_getR ow_29 rf_8_32 rfl rfl rfl ?_; refine ap_aload_n rfl ?_; refine ai_getI ow_29 rf_8_88 rfl rfl ?_; refine ai_lconst 1 rfl ?_; refine ap_lload_n rfl ?_; refine ap_lload_n rfl ?_; refine ap_iload rfl ?_; refine ai_i2l ?_ ?_; refine ai_lmul ?_; refine ai_ladd ?_; refine ai_ldc2 (20000) ow_29 kl_8_103 rfl ?_; refine ai_ldiv ?_ ?_; refine ai_ladd ?_; refine ai_l2i ?_; refine ai_iastore (n := 121) rfl rfl (by decide) ?_ ?_; refine ap_aload_n rfl ?_; refine ap_getR ow_29 rf_8_38 rfl rfl rfl ?_; refine ap_aload_n rfl ?_; refine ai_getI ow_29 rf_8_88 rfl rfl ?_; refine ai_ldc2 (-1) ow_29 kl_8_64 rfl ?_; refine ai_lastore (n := 121) rfl rfl (by decide) ?_ ?_; refine ap_aload_n rfl ?_; refine ai_getI ow_29 rf_8_88 rfl rfl ?_; refine ap_iret rfl ?_
                          · (try simp only [bz, Decidable.not_not] at *); first | (exfalso; omega) | first | exact K1  (by omega) | exact K2  (by omega) | exact K3  (by omega) | exact K4  (by omega) | exact K5  (by omega)
                          all_goals (first | omega | (simp [am_up] <;> omega) | (split <;> omega) | (simp only [bz, Decidable.not_not] at *; omega) | (simp only [bz, Decidable.not_not] at *; simp [am_up] <;> omega))
                        · refine ap_go kc_29_107 ?_
                          refine ai_iconst ?_; refine ap_iret rfl ?_
                          (try simp only [bz, Decidable.not_not] at *); first | (exfalso; omega) | first | exact K1  (by omega) | exact K2  (by omega) | exact K3  (by omega) | exact K4  (by omega) | exact K5  (by omega)
                        all_goals (first | omega | (simp [am_up] <;> omega) | (split <;> omega) | (simp only [bz, Decidable.not_not] at *; omega) | (simp only [bz, Decidable.not_not] at *; simp [am_up] <;> omega))
                      all_goals (first | omega | (simp [am_up] <;> omega) | (split <;> omega) | (simp only [bz, Decidable.not_not] at *; omega) | (simp only [bz, Decidable.not_not] at *; simp [am_up] <;> omega))
                    · refine ap_go kc_29_81 ?_
                      refine ai_bipush (by decide) ?_; refine ap_iret rfl ?_
                      (try simp only [bz, Decidable.not_not] at *); first | (exfalso; omega) | first | exact K1  (by omega) | exact K2  (by omega) | exact K3  (by omega) | exact K4  (by omega) | exact K5  (by omega)
                    all_goals (first | omega | (simp [am_up] <;> omega) | (split <;> omega) | (simp only [bz, Decidable.not_not] at *; omega) | (simp only [bz, Decidable.not_not] at *; simp [am_up] <;> omega))
                  · refine ap_go kc_29_69 ?_
                    refine ai_bipush (by decide) ?_; refine ap_iret rfl ?_
                    (try simp only [bz, Decidable.not_not] at *); first | (exfalso; omega) | first | exact K1  (by omega) | exact K2  (by omega) | exact K3  (by omega) | exact K4  (by omega) | exact K5  (by omega)
                  all_goals (first | omega | (simp [am_up] <;> omega) | (split <;> omega) | (simp only [bz, Decidable.not_not] at *; omega) | (simp only [bz, Decidable.not_not] at *; simp [am_up] <;> omega))
                all_goals (first | omega | (simp [am_up] <;> omega) | (split <;> omega) | (simp only [bz, Decidable.not_not] at *; omega) | (simp only [bz, Decidable.not_not] at *; simp [am_up] <;> omega))
              all_goals (first | omega | (simp [am_up] <;> omega) | (split <;> omega) | (simp only [bz, Decidable.not_not] at *; omega) | (simp only [bz, Decidable.not_not] at *; simp [am_up] <;> omega))
            all_goals (first | omega | (simp [am_up] <;> omega) | (split <;> omega) | (simp only [bz, Decidable.not_not] at *; omega) | (simp only [bz, Decidable.not_not] at *; simp [am_up] <;> omega))
          all_goals (first | omega | (simp [am_up] <;> omega) | (split <;> omega) | (simp only [bz, Decidable.not_not] at *; omega) | (simp only [bz, Decidable.not_not] at *; simp [am_up] <;> omega))
        all_goals (first | omega | (simp [am_up] <;> omega) | (split <;> omega) | (simp only [bz, Decidable.not_not] at *; omega) | (simp only [bz, Decidable.not_not] at *; simp [am_up] <;> omega))
      all_goals (first | omega | (simp [am_up] <;> omega) | (split <;> omega) | (simp only [bz, Decidable.not_not] at *; omega) | (simp only [bz, Decidable.not_not] at *; simp [am_up] <;> omega))
    · refine ap_go kc_29_21 ?_
      refine ai_iconst ?_; refine ap_iret rfl ?_
      (try simp only [bz, Decidable.not_not] at *); first | (exfalso; omega) | first | exact K1  (by omega) | exact K2  (by omega) | exact K3  (by omega) | exact K4  (by omega) | exact K5  (by omega)
    all_goals (first | omega | (simp [am_up] <;> omega) | (split <;> omega) | (simp only [bz, Decidable.not_not] at *; omega) | (simp only [bz, Decidable.not_not] at *; simp [am_up] <;> omega))
  all_goals (first | omega | (simp [am_up] <;> omega) | (split <;> omega) | (simp only [bz, Decidable.not_not] at *; omega) | (simp only [bz, Decidable.not_not] at *; simp [am_up] <;> omega))
end
section
/-! THE FACE: part, search -/
/-- what take() answers, and the numbers then -/
def tkR (f : Nat → Nat → Int) (e n x : Int) (f2 : Nat → Nat → Int) : Prop := ((f 26 1 = 0 ∨ f 26 1 = 255 ∧ f 26 0 < e) ∧ x = 1 ∧ f2 = am_up (am_up f 26 0 e) 26 1 (b_shl 1 n)) ∨ (¬ (f 26 1 = 0 ∨ f 26 1 = 255 ∧ f 26 0 < e) ∧ (¬ e = f 26 0 ∨ ¬ b_and (b_shr (f 26 1) n) 1 = 0) ∧ x = 0 ∧ f2 = f) ∨ (¬ (f 26 1 = 0 ∨ f 26 1 = 255 ∧ f 26 0 < e) ∧ ¬ (¬ e = f 26 0 ∨ ¬ b_and (b_shr (f 26 1) n) 1 = 0) ∧ x = 1 ∧ f2 = am_up f 26 1 (b_or (f 26 1) (b_shl 1 n)))
theorem sp_71r {d L : Nat} {sw : Bool} {f g : Nat → Nat → Int} {Q : Option Value → am_H → Prop} {e n : Int} (K : ∀ x f2, tkR f e n x f2 → Q (some (.int (iZ x))) (53, sh_lt L, iH f2, jH g, sh_rt sw)) (he : iR e) (h1 : iR (f 26 0)) (h2 : iR (f 26 1)) : am_call (d + 1) 71 [.ref 26, .int (iZ e), .int (iZ n)] (53, sh_lt L, iH f, jH g, sh_rt sw) Q :=
  sp_71 (fun c => K _ _ (Or.inl ⟨c, rfl, rfl⟩)) (fun c c2 => K _ _ (Or.inr (Or.inl ⟨c, c2, rfl, rfl⟩))) (fun c c2 => K _ _ (Or.inr (Or.inr ⟨c, c2, rfl, rfl⟩))) he h1 h2
theorem tkR_x {f f2 : Nat → Nat → Int} {e n x : Int} (h : tkR f e n x f2) : x = 0 ∨ x = 1 := by
  rcases h with h | h | h
  · exact Or.inr h.2.1
  · exact Or.inl h.2.2.1
  · exact Or.inr h.2.2.1
theorem sp_14 {d L : Nat} {sw : Bool} {f g : Nat → Nat → Int} {Q : Option Value → am_H → Prop} {e n : Int} (K0 : ¬ (0 ≤ n ∧ n < 8 ∧ 1 ≤ e) → Q (some (.int (iZ (-2)))) (53, sh_lt L, iH f, jH g, sh_rt sw)) (K : (0 ≤ n ∧ n < 8 ∧ 1 ≤ e) → ∀ x f2, tkR f e n x f2 → Q (some (.int (iZ x))) (53, sh_lt L, iH f2, jH g, sh_rt sw)) (he : iR e) (hn : iR n) (h1 : iR (f 26 0)) (h2 : iR (f 26 1)) : am_call (d + 2) 14 [.ref 0, .int (iZ e), .int (iZ n)] (53, sh_lt L, iH f, jH g, sh_rt sw) Q := by
  refine ap_call (by decide) (Nat.le_of_ble_eq_true rfl) rfl ?_
  refine ap_go kc_14_0 ?_
  refine ap_iload_n rfl ?_
  refine ai_iflt rfl rfl (fun hb0 => ?_) (fun hb0 => ?_) ?_
  · refine ap_go kc_14_15 ?_
    refine ai_bipush (by decide) ?_; refine ap_iret rfl ?_
    first | exact K0 (by omega) | exact sq (K (by omega) x f2 hR) (by omega)
  · refine ap_go kc_14_4 ?_
    refine ap_iload_n rfl ?_; refine ai_bipush (by decide) ?_
    refine ai_icge rfl rfl (fun hb1 => ?_) (fun hb1 => ?_) ?_
    · refine ap_go kc_14_15 ?_
      refine ai_bipush (by decide) ?_; refine ap_iret rfl ?_
      first | exact K0 (by omega) | exact sq (K (by omega) x f2 hR) (by omega)
    · refine ap_go kc_14_10 ?_
      refine ap_iload_n rfl ?_; refine ai_iconst ?_
      refine ai_icge rfl rfl (fun hb2 => ?_) (fun hb2 => ?_) ?_
      · refine ap_go kc_14_18 ?_
        refine ap_aload_n rfl ?_; refine ap_getR ow_14 rf_7_44 rfl rfl rfl ?_; refine ap_iload_n rfl ?_; refine ap_iload_n rfl ?_; refine ap_callv0 ow_14 rm_7_206 na_71 mc_71 ms_71 rfl rfl (Nat.le_of_ble_eq_true rfl) (Nat.le_of_ble_eq_true rfl) (Or.inr rfl) (Nat.zero_le _) (Nat.zero_le _) ?_; refine sp_71r (fun x f2 hR => ?_) he h1 h2; have hx := tkR_x hR; dsimp only [Option.toList_some, Option.toList_none, List.cons_append, List.nil_append]
        refine ai_ifeq rfl rfl (fun hb3 => ?_) (fun hb3 => ?_) ?_
        · refine ap_go kc_14_34 ?_
          refine ai_iconst ?_; refine ap_nil ?_
          refine ap_go kc_14_35 ?_
          refine ap_iret rfl ?_
          first | exact K0 (by omega) | exact sq (K (by omega) x f2 hR) (by omega)
        · refine ap_go kc_14_30 ?_
          refine ai_iconst ?_; refine ap_goto rfl ?_
          refine ap_go kc_14_35 ?_
          refine ap_iret rfl ?_
          first | exact K0 (by omega) | exact sq (K (by omega) x f2 hR) (by omega)
        all_goals (omega)
      · refine ap_go kc_14_15 ?_
        refine ai_bipush (by decide) ?_; refine ap_iret rfl ?_
        first | exact K0 (by omega) | exact sq (K (by omega) x f2 hR) (by omega)
      all_goals (omega)
    all_goals (omega)
  all_goals (omega)

theorem sp_59 {d L : Nat} {sw : Bool} {f g : Nat → Nat → Int} {Q : Option Value → am_H → Prop} {f1 : Nat → Nat → Int} {e n : Int} (hf : am_up f 31 0 0 = f1) (K1 : ¬ (0 ≤ n ∧ n < 8 ∧ 1 ≤ e) → Q (some (.int (iZ (-2)))) (53, sh_lt L, iH f1, jH g, sh_rt sw)) (K2 : (0 ≤ n ∧ n < 8 ∧ 1 ≤ e) ∧ ((f1 31 35 = 0 ∨ f1 31 35 = 255) ∧ e ≤ f1 31 34 ∨ ¬ (f1 31 35 = 0 ∨ f1 31 35 = 255) ∧ (¬ e = f1 31 34 ∨ b_and (b_shr (f1 31 35) n) 1 = 1)) → Q (some (.int (iZ (0)))) (53, sh_lt L, iH f1, jH g, sh_rt sw)) (K3 : (0 ≤ n ∧ n < 8 ∧ 1 ≤ e) ∧ ¬ ((f1 31 35 = 0 ∨ f1 31 35 = 255) ∧ e ≤ f1 31 34 ∨ ¬ (f1 31 35 = 0 ∨ f1 31 35 = 255) ∧ (¬ e = f1 31 34 ∨ b_and (b_shr (f1 31 35) n) 1 = 1)) ∧ (f1 31 35 = 0 ∨ f1 31 35 = 255) → Q (some (.int (iZ (1)))) (53, sh_lt L, iH (am_up (am_up f1 31 35 (b_shl 1 n)) 31 34 e), jH g, sh_rt sw)) (K4 : (0 ≤ n ∧ n < 8 ∧ 1 ≤ e) ∧ ¬ ((f1 31 35 = 0 ∨ f1 31 35 = 255) ∧ e ≤ f1 31 34 ∨ ¬ (f1 31 35 = 0 ∨ f1 31 35 = 255) ∧ (¬ e = f1 31 34 ∨ b_and (b_shr (f1 31 35) n) 1 = 1)) ∧ ¬ (f1 31 35 = 0 ∨ f1 31 35 = 255) → Q (some (.int (iZ (1)))) (53, sh_lt L, iH (am_up (am_up f1 31 35 (b_or (f1 31 35) (b_shl 1 n))) 31 34 e), jH g, sh_rt sw)) (he : iR e) (hn : iR n) (h1 : iR (f1 31 34)) (h2 : iR (f1 31 35)) : am_call (d + 1) 59 [.ref 31, .int (iZ e), .int (iZ n)] (53, sh_lt L, iH f, jH g, sh_rt sw) Q := by
  refine ap_call (by decide) (Nat.le_of_ble_eq_true rfl) rfl ?_
  refine ap_go kc_59_0 ?_
  refine ap_aload_n rfl ?_; refine ai_iconst ?_; refine ai_putI ow_59 rf_8_82 rfl rfl rfl ?_
  rw [hf]
  refine ap_iload_n rfl ?_
  refine ai_iflt rfl rfl (fun hb0 => ?_) (fun hb0 => ?_) ?_
  · refine ap_go kc_59_20 ?_
    refine ai_bipush (by decide) ?_; refine ap_iret rfl ?_
    first | (exfalso; omega) | first | exact K1  (by omega) | exact K2  (by omega) | exact K3  (by omega) | exact K4  (by omega)
  · refine ap_go kc_59_9 ?_
    refine ap_iload_n rfl ?_; refine ai_bipush (by decide) ?_
    refine ai_icgt rfl rfl (fun hb1 => ?_) (fun hb1 => ?_) ?_
    · refine ap_go kc_59_20 ?_
      refine ai_bipush (by decide) ?_; refine ap_iret rfl ?_
      first | (exfalso; omega) | first | exact K1  (by omega) | exact K2  (by omega) | exact K3  (by omega) | exact K4  (by omega)
    · refine ap_go kc_59_15 ?_
      refine ap_iload_n rfl ?_; refine ai_iconst ?_
      refine ai_icge rfl rfl (fun hb2 => ?_) (fun hb2 => ?_) ?_
      · refine ap_go kc_59_23 ?_
        refine ap_aload_n rfl ?_; refine ai_getI ow_59 rf_8_214 rfl rfl ?_
        refine ai_ifeq rfl rfl (fun hb3 => ?_) (fun hb3 => ?_) ?_
        · refine ap_go kc_59_40 ?_
          refine ai_iconst ?_; refine ap_goto rfl ?_
          refine ap_go kc_59_45 ?_
          refine ap_istore_n rfl ?_; refine ap_iload_n rfl ?_
          refine ai_ifeq rfl rfl (fun hb4 => ?_) (fun hb4 => ?_) ?_
          · refine ap_go kc_59_58 ?_
            refine ap_iload_n rfl ?_
            refine ai_ifne rfl rfl (fun hb5 => ?_) (fun hb5 => ?_) ?_
            · refine ap_go kc_59_84 ?_
              refine ap_aload_n rfl ?_; refine ap_iload_n rfl ?_
              refine ai_ifeq rfl rfl (fun hb6 => ?_) (fun hb6 => ?_) ?_
              · refine ap_go kc_59_95 ?_
                refine ap_aload_n rfl ?_; refine ai_getI ow_59 rf_8_214 rfl rfl ?_; refine ai_iconst ?_; refine ap_iload_n rfl ?_; refine ai_ishl ?_; refine ai_ior ?_; refine ap_nil ?_
                refine ap_go kc_59_103 ?_
                refine ai_putI ow_59 rf_8_214 rfl rfl rfl ?_; refine ap_aload_n rfl ?_; refine ap_iload_n rfl ?_; refine ai_putI ow_59 rf_8_217 rfl rfl rfl ?_; refine ai_iconst ?_; refine ap_iret rfl ?_
                first | (exfalso; omega) | first | exact K1  (by omega) | exact K2  (by omega) | exact K3  (by omega) | exact K4  (by omega)
              · refine ap_go kc_59_89 ?_
                refine ai_iconst ?_; refine ap_iload_n rfl ?_; refine ai_ishl ?_; refine ap_goto rfl ?_
                refine ap_go kc_59_103 ?_
                refine ai_putI ow_59 rf_8_214 rfl rfl rfl ?_; refine ap_aload_n rfl ?_; refine ap_iload_n rfl ?_; refine ai_putI ow_59 rf_8_217 rfl rfl rfl ?_; refine ai_iconst ?_; refine ap_iret rfl ?_
                first | (exfalso; omega) | first | exact K1  (by omega) | exact K2  (by omega) | exact K3  (by omega) | exact K4  (by omega)
              all_goals (first | omega | exact iR_T _ | exact ⟨iR_T _, by decide, by decide⟩)
            · refine ap_go kc_59_62 ?_
              refine ap_iload_n rfl ?_; refine ap_aload_n rfl ?_; refine ai_getI ow_59 rf_8_217 rfl rfl ?_
              refine ai_icne rfl rfl (fun hb7 => ?_) (fun hb7 => ?_) ?_
              · refine ap_go kc_59_82 ?_
                refine ai_iconst ?_; refine ap_iret rfl ?_
                first | (exfalso; omega) | first | exact K1  (by omega) | exact K2  (by omega) | exact K3  (by omega) | exact K4  (by omega)
              · refine ap_go kc_59_70 ?_
                refine ap_aload_n rfl ?_; refine ai_getI ow_59 rf_8_214 rfl rfl ?_; refine ap_iload_n rfl ?_; refine ai_ishr ?_; refine ai_iconst ?_; refine ai_iand ?_; refine ai_iconst ?_
                refine ai_icne rfl rfl (fun hb8 => ?_) (fun hb8 => ?_) ?_
                · refine ap_go kc_59_84 ?_
                  refine ap_aload_n rfl ?_; refine ap_iload_n rfl ?_
                  refine ai_ifeq rfl rfl (fun hb9 => ?_) (fun hb9 => ?_) ?_
                  · refine ap_go kc_59_95 ?_
                    refine ap_aload_n rfl ?_; refine ai_getI ow_59 rf_8_214 rfl rfl ?_; refine ai_iconst ?_; refine ap_iload_n rfl ?_; refine ai_ishl ?_; refine ai_ior ?_; refine ap_nil ?_
                    refine ap_go kc_59_103 ?_
                    refine ai_putI ow_59 rf_8_214 rfl rfl rfl ?_; refine ap_aload_n rfl ?_; refine ap_iload_n rfl ?_; refine ai_putI ow_59 rf_8_217 rfl rfl rfl ?_; refine ai_iconst ?_; refine ap_iret rfl ?_
                    first | (exfalso; omega) | first | exact K1  (by omega) | exact K2  (by omega) | exact K3  (by omega) | exact K4  (by omega)
                  · refine ap_go kc_59_89 ?_
                    refine ai_iconst ?_; refine ap_iload_n rfl ?_; refine ai_ishl ?_; refine ap_goto rfl ?_
                    refine ap_go kc_59_103 ?_
                    refine ai_putI ow_59 rf_8_214 rfl rfl rfl ?_; refine ap_aload_n rfl ?_; refine ap_iload_n rfl ?_; refine ai_putI ow_59 rf_8_217 rfl rfl rfl ?_; refine ai_iconst ?_; refine ap_iret rfl ?_
                    first | (exfalso; omega) | first | exact K1  (by omega) | exact K2  (by omega) | exact K3  (by omega) | exact K4  (by omega)
                  all_goals (first | omega | exact iR_T _ | exact ⟨iR_T _, by decide, by decide⟩)
                · refine ap_go kc_59_82 ?_
                  refine ai_iconst ?_; refine ap_iret rfl ?_
                  first | (exfalso; omega) | first | exact K1  (by omega) | exact K2  (by omega) | exact K3  (by omega) | exact K4  (by omega)
                all_goals (first | omega | exact iR_T _ | exact ⟨iR_T _, by decide, by decide⟩)
              all_goals (first | omega | exact iR_T _ | exact ⟨iR_T _, by decide, by decide⟩)
            all_goals (first | omega | exact iR_T _ | exact ⟨iR_T _, by decide, by decide⟩)
          · refine ap_go kc_59_50 ?_
            refine ap_iload_n rfl ?_; refine ap_aload_n rfl ?_; refine ai_getI ow_59 rf_8_217 rfl rfl ?_
            refine ai_icle rfl rfl (fun hb10 => ?_) (fun hb10 => ?_) ?_
            · refine ap_go kc_59_82 ?_
              refine ai_iconst ?_; refine ap_iret rfl ?_
              first | (exfalso; omega) | first | exact K1  (by omega) | exact K2  (by omega) | exact K3  (by omega) | exact K4  (by omega)
            · refine ap_go kc_59_58 ?_
              refine ap_iload_n rfl ?_
              refine ai_ifne rfl rfl (fun hb11 => ?_) (fun hb11 => ?_) ?_
              · refine ap_go kc_59_84 ?_
                refine ap_aload_n rfl ?_; refine ap_iload_n rfl ?_
                refine ai_ifeq rfl rfl (fun hb12 => ?_) (fun hb12 => ?_) ?_
                · refine ap_go kc_59_95 ?_
                  refine ap_aload_n rfl ?_; refine ai_getI ow_59 rf_8_214 rfl rfl ?_; refine ai_iconst ?_; refine ap_iload_n rfl ?_; refine ai_ishl ?_; refine ai_ior ?_; refine ap_nil ?_
                  refine ap_go kc_59_103 ?_
                  refine ai_putI ow_59 rf_8_214 rfl rfl rfl ?_; refine ap_aload_n rfl ?_; refine ap_iload_n rfl ?_; refine ai_putI ow_59 rf_8_217 rfl rfl rfl ?_; refine ai_iconst ?_; refine ap_iret rfl ?_
                  first | (exfalso; omega) | first | exact K1  (by omega) | exact K2  (by omega) | exact K3  (by omega) | exact K4  (by omega)
                · refine ap_go kc_59_89 ?_
                  refine ai_iconst ?_; refine ap_iload_n rfl ?_; refine ai_ishl ?_; refine ap_goto rfl ?_
                  refine ap_go kc_59_103 ?_
                  refine ai_putI ow_59 rf_8_214 rfl rfl rfl ?_; refine ap_aload_n rfl ?_; refine ap_iload_n rfl ?_; refine ai_putI ow_59 rf_8_217 rfl rfl rfl ?_; refine ai_iconst ?_; refine ap_iret rfl ?_
                  first | (exfalso; omega) | first | exact K1  (by omega) | exact K2  (by omega) | exact K3  (by omega) | exact K4  (by omega)
                all_goals (first | omega | exact iR_T _ | exact ⟨iR_T _, by decide, by decide⟩)
              · refine ap_go kc_59_62 ?_
                refine ap_iload_n rfl ?_; refine ap_aload_n rfl ?_; refine ai_getI ow_59 rf_8_217 rfl rfl ?_
                refine ai_icne rfl rfl (fun hb13 => ?_) (fun hb13 => ?_) ?_
                · refine ap_go kc_59_82 ?_
                  refine ai_iconst ?_; refine ap_iret rfl ?_
                  first | (exfalso; omega) | first | exact K1  (by omega) | exact K2  (by omega) | exact K3  (by omega) | exact K4  (by omega)
                · refine ap_go kc_59_70 ?_
                  refine ap_aload_n rfl ?_; refine ai_getI ow_59 rf_8_214 rfl rfl ?_; refine ap_iload_n rfl ?_; refine ai_ishr ?_; refine ai_iconst ?_; refine ai_iand ?_; refine ai_iconst ?_
                  refine ai_icne rfl rfl (fun hb14 => ?_) (fun hb14 => ?_) ?_
                  · refine ap_go kc_59_84 ?_
                    refine ap_aload_n rfl ?_; refine ap_iload_n rfl ?_
                    refine ai_ifeq rfl rfl (fun hb15 => ?_) (fun hb15 => ?_) ?_
                    · refine ap_go kc_59_95 ?_
                      refine ap_aload_n rfl ?_; refine ai_getI ow_59 rf_8_214 rfl rfl ?_; refine ai_iconst ?_; refine ap_iload_n rfl ?_; refine ai_ishl ?_; refine ai_ior ?_; refine ap_nil ?_
                      refine ap_go kc_59_103 ?_
                      refine ai_putI ow_59 rf_8_214 rfl rfl rfl ?_; refine ap_aload_n rfl ?_; refine ap_iload_n rfl ?_; refine ai_putI ow_59 rf_8_217 rfl rfl rfl ?_; refine ai_iconst ?_; refine ap_iret rfl ?_
                      first | (exfalso; omega) | first | exact K1  (by omega) | exact K2  (by omega) | exact K3  (by omega) | exact K4  (by omega)
                    · refine ap_go kc_59_89 ?_
                      refine ai_iconst ?_; refine ap_iload_n rfl ?_; refine ai_ishl ?_; refine ap_goto rfl ?_
                      refine ap_go kc_59_103 ?_
                      refine ai_putI ow_59 rf_8_214 rfl rfl rfl ?_; refine ap_aload_n rfl ?_; refine ap_iload_n rfl ?_; refine ai_putI ow_59 rf_8_217 rfl rfl rfl ?_; refine ai_iconst ?_; refine ap_iret rfl ?_
                      first | (exfalso; omega) | first | exact K1  (by omega) | exact K2  (by omega) | exact K3  (by omega) | exact K4  (by omega)
                    all_goals (first | omega | exact iR_T _ | exact ⟨iR_T _, by decide, by decide⟩)
                  · refine ap_go kc_59_82 ?_
                    refine ai_iconst ?_; refine ap_iret rfl ?_
                    first | (exfalso; omega) | first | exact K1  (by omega) | exact K2  (by omega) | exact K3  (by omega) | exact K4  (by omega)
                  all_goals (first | omega | exact iR_T _ | exact ⟨iR_T _, by decide, by decide⟩)
                all_goals (first | omega | exact iR_T _ | exact ⟨iR_T _, by decide, by decide⟩)
              all_goals (first | omega | exact iR_T _ | exact ⟨iR_T _, by decide, by decide⟩)
            all_goals (first | omega | exact iR_T _ | exact ⟨iR_T _, by decide, by decide⟩)
          all_goals (first | omega | exact iR_T _ | exact ⟨iR_T _, by decide, by decide⟩)
        · refine ap_go kc_59_30 ?_
          refine ap_aload_n rfl ?_; refine ai_getI ow_59 rf_8_214 rfl rfl ?_; refine ai_sipush (by decide) ?_
          refine ai_icne rfl rfl (fun hb16 => ?_) (fun hb16 => ?_) ?_
          · refine ap_go kc_59_44 ?_
            refine ai_iconst ?_; refine ap_nil ?_
            refine ap_go kc_59_45 ?_
            refine ap_istore_n rfl ?_; refine ap_iload_n rfl ?_
            refine ai_ifeq rfl rfl (fun hb17 => ?_) (fun hb17 => ?_) ?_
            · refine ap_go kc_59_58 ?_
              refine ap_iload_n rfl ?_
              refine ai_ifne rfl rfl (fun hb18 => ?_) (fun hb18 => ?_) ?_
              · refine ap_go kc_59_84 ?_
                refine ap_aload_n rfl ?_; refine ap_iload_n rfl ?_
                refine ai_ifeq rfl rfl (fun hb19 => ?_) (fun hb19 => ?_) ?_
                · refine ap_go kc_59_95 ?_
                  refine ap_aload_n rfl ?_; refine ai_getI ow_59 rf_8_214 rfl rfl ?_; refine ai_iconst ?_; refine ap_iload_n rfl ?_; refine ai_ishl ?_; refine ai_ior ?_; refine ap_nil ?_
                  refine ap_go kc_59_103 ?_
                  refine ai_putI ow_59 rf_8_214 rfl rfl rfl ?_; refine ap_aload_n rfl ?_; refine ap_iload_n rfl ?_; refine ai_putI ow_59 rf_8_217 rfl rfl rfl ?_; refine ai_iconst ?_; refine ap_iret rfl ?_
                  first | (exfalso; omega) | first | exact K1  (by omega) | exact K2  (by omega) | exact K3  (by omega) | exact K4  (by omega)
                · refine ap_go kc_59_89 ?_
                  refine ai_iconst ?_; refine ap_iload_n rfl ?_; refine ai_ishl ?_; refine ap_goto rfl ?_
                  refine ap_go kc_59_103 ?_
                  refine ai_putI ow_59 rf_8_214 rfl rfl rfl ?_; refine ap_aload_n rfl ?_; refine ap_iload_n rfl ?_; refine ai_putI ow_59 rf_8_217 rfl rfl rfl ?_; refine ai_iconst ?_; refine ap_iret rfl ?_
                  first | (exfalso; omega) | first | exact K1  (by omega) | exact K2  (by omega) | exact K3  (by omega) | exact K4  (by omega)
                all_goals (first | omega | exact iR_T _ | exact ⟨iR_T _, by decide, by decide⟩)
              · refine ap_go kc_59_62 ?_
                refine ap_iload_n rfl ?_; refine ap_aload_n rfl ?_; refine ai_getI ow_59 rf_8_217 rfl rfl ?_
                refine ai_icne rfl rfl (fun hb20 => ?_) (fun hb20 => ?_) ?_
                · refine ap_go kc_59_82 ?_
                  refine ai_iconst ?_; refine ap_iret rfl ?_
                  first | (exfalso; omega) | first | exact K1  (by omega) | exact K2  (by omega) | exact K3  (by omega) | exact K4  (by omega)
                · refine ap_go kc_59_70 ?_
                  refine ap_aload_n rfl ?_; refine ai_getI ow_59 rf_8_214 rfl rfl ?_; refine ap_iload_n rfl ?_; refine ai_ishr ?_; refine ai_iconst ?_; refine ai_iand ?_; refine ai_iconst ?_
                  refine ai_icne rfl rfl (fun hb21 => ?_) (fun hb21 => ?_) ?_
                  · refine ap_go kc_59_84 ?_
                    refine ap_aload_n rfl ?_; refine ap_iload_n rfl ?_
                    refine ai_ifeq rfl rfl (fun hb22 => ?_) (fun hb22 => ?_) ?_
                    · refine ap_go kc_59_95 ?_
                      refine ap_aload_n rfl ?_; refine ai_getI ow_59 rf_8_214 rfl rfl ?_; refine ai_iconst ?_; refine ap_iload_n rfl ?_; refine ai_ishl ?_; refine ai_ior ?_; refine ap_nil ?_
                      refine ap_go kc_59_103 ?_
                      refine ai_putI ow_59 rf_8_214 rfl rfl rfl ?_; refine ap_aload_n rfl ?_; refine ap_iload_n rfl ?_; refine ai_putI ow_59 rf_8_217 rfl rfl rfl ?_; refine ai_iconst ?_; refine ap_iret rfl ?_
                      first | (exfalso; omega) | first | exact K1  (by omega) | exact K2  (by omega) | exact K3  (by omega) | exact K4  (by omega)
                    · refine ap_go kc_59_89 ?_
                      refine ai_iconst ?_; refine ap_iload_n rfl ?_; refine ai_ishl ?_; refine ap_goto rfl ?_
                      refine ap_go kc_59_103 ?_
                      refine ai_putI ow_59 rf_8_214 rfl rfl rfl ?_; refine ap_aload_n rfl ?_; refine ap_iload_n rfl ?_; refine ai_putI ow_59 rf_8_217 rfl rfl rfl ?_; refine ai_iconst ?_; refine ap_iret rfl ?_
                      first | (exfalso; omega) | first | exact K1  (by omega) | exact K2  (by omega) | exact K3  (by omega) | exact K4  (by omega)
                    all_goals (first | omega | exact iR_T _ | exact ⟨iR_T _, by decide, by decide⟩)
                  · refine ap_go kc_59_82 ?_
                    refine ai_iconst ?_; refine ap_iret rfl ?_
                    first | (exfalso; omega) | first | exact K1  (by omega) | exact K2  (by omega) | exact K3  (by omega) | exact K4  (by omega)
                  all_goals (first | omega | exact iR_T _ | exact ⟨iR_T _, by decide, by decide⟩)
                all_goals (first | omega | exact iR_T _ | exact ⟨iR_T _, by decide, by decide⟩)
              all_goals (first | omega | exact iR_T _ | exact ⟨iR_T _, by decide, by decide⟩)
            · refine ap_go kc_59_50 ?_
              refine ap_iload_n rfl ?_; refine ap_aload_n rfl ?_; refine ai_getI ow_59 rf_8_217 rfl rfl ?_
              refine ai_icle rfl rfl (fun hb23 => ?_) (fun hb23 => ?_) ?_
              · refine ap_go kc_59_82 ?_
                refine ai_iconst ?_; refine ap_iret rfl ?_
                first | (exfalso; omega) | first | exact K1  (by omega) | exact K2  (by omega) | exact K3  (by omega) | exact K4  (by omega)
              · refine ap_go kc_59_58 ?_
                refine ap_iload_n rfl ?_
                refine ai_ifne rfl rfl (fun hb24 => ?_) (fun hb24 => ?_) ?_
                · refine ap_go kc_59_84 ?_
                  refine ap_aload_n rfl ?_; refine ap_iload_n rfl ?_
                  refine ai_ifeq rfl rfl (fun hb25 => ?_) (fun hb25 => ?_) ?_
                  · refine ap_go kc_59_95 ?_
                    refine ap_aload_n rfl ?_; refine ai_getI ow_59 rf_8_214 rfl rfl ?_; refine ai_iconst ?_; refine ap_iload_n rfl ?_; refine ai_ishl ?_; refine ai_ior ?_; refine ap_nil ?_
                    refine ap_go kc_59_103 ?_
                    refine ai_putI ow_59 rf_8_214 rfl rfl rfl ?_; refine ap_aload_n rfl ?_; refine ap_iload_n rfl ?_; refine ai_putI ow_59 rf_8_217 rfl rfl rfl ?_; refine ai_iconst ?_; refine ap_iret rfl ?_
                    first | (exfalso; omega) | first | exact K1  (by omega) | exact K2  (by omega) | exact K3  (by omega) | exact K4  (by omega)
                  · refine ap_go kc_59_89 ?_
                    refine ai_iconst ?_; refine ap_iload_n rfl ?_; refine ai_ishl ?_; refine ap_goto rfl ?_
                    refine ap_go kc_59_103 ?_
                    refine ai_putI ow_59 rf_8_214 rfl rfl rfl ?_; refine ap_aload_n rfl ?_; refine ap_iload_n rfl ?_; refine ai_putI ow_59 rf_8_217 rfl rfl rfl ?_; refine ai_iconst ?_; refine ap_iret rfl ?_
                    first | (exfalso; omega) | first | exact K1  (by omega) | exact K2  (by omega) | exact K3  (by omega) | exact K4  (by omega)
                  all_goals (first | omega | exact iR_T _ | exact ⟨iR_T _, by decide, by decide⟩)
                · refine ap_go kc_59_62 ?_
                  refine ap_iload_n rfl ?_; refine ap_aload_n rfl ?_; refine ai_getI ow_59 rf_8_217 rfl rfl ?_
                  refine ai_icne rfl rfl (fun hb26 => ?_) (fun hb26 => ?_) ?_
                  · refine ap_go kc_59_82 ?_
                    refine ai_iconst ?_; refine ap_iret rfl ?_
                    first | (exfalso; omega) | first | exact K1  (by omega) | exact K2  (by omega) | exact K3  (by omega) | exact K4  (by omega)
                  · refine ap_go kc_59_70 ?_
                    refine ap_aload_n rfl ?_; refine ai_getI ow_59 rf_8_214 rfl rfl ?_; refine ap_iload_n rfl ?_; refine ai_ishr ?_; refine ai_iconst ?_; refine ai_iand ?_; refine ai_iconst ?_
                    refine ai_icne rfl rfl (fun hb27 => ?_) (fun hb27 => ?_) ?_
                    · refine ap_go kc_59_84 ?_
                      refine ap_aload_n rfl ?_; refine ap_iload_n rfl ?_
                      refine ai_ifeq rfl rfl (fun hb28 => ?_) (fun hb28 => ?_) ?_
                      · refine ap_go kc_59_95 ?_
                        refine ap_aload_n rfl ?_; refine ai_getI ow_59 rf_8_214 rfl rfl ?_; refine ai_iconst ?_; refine ap_iload_n rfl ?_; refine ai_ishl ?_; refine ai_ior ?_; refine ap_nil ?_
                        refine ap_go kc_59_103 ?_
                        refine ai_putI ow_59 rf_8_214 rfl rfl rfl ?_; refine ap_aload_n rfl ?_; refine ap_iload_n rfl ?_; refine ai_putI ow_59 rf_8_217 rfl rfl rfl ?_; refine ai_iconst ?_; refine ap_iret rfl ?_
                        first | (exfalso; omega) | first | exact K1  (by omega) | exact K2  (by omega) | exact K3  (by omega) | exact K4  (by omega)
                      · refine ap_go kc_59_89 ?_
                        refine ai_iconst ?_; refine ap_iload_n rfl ?_; refine ai_ishl ?_; refine ap_goto rfl ?_
                        refine ap_go kc_59_103 ?_
                        refine ai_putI ow_59 rf_8_214 rfl rfl rfl ?_; refine ap_aload_n rfl ?_; refine ap_iload_n rfl ?_; refine ai_putI ow_59 rf_8_217 rfl rfl rfl ?_; refine ai_iconst ?_; refine ap_iret rfl ?_
                        first | (exfalso; omega) | first | exact K1  (by omega) | exact K2  (by omega) | exact K3  (by omega) | exact K4  (by omega)
                      all_goals (first | omega | exact iR_T _ | exact ⟨iR_T _, by decide, by decide⟩)
                    · refine ap_go kc_59_82 ?_
                      refine ai_iconst ?_; refine ap_iret rfl ?_
                      first | (exfalso; omega) | first | exact K1  (by omega) | exact K2  (by omega) | exact K3  (by omega) | exact K4  (by omega)
                    all_goals (first | omega | exact iR_T _ | exact ⟨iR_T _, by decide, by decide⟩)
                  all_goals (first | omega | exact iR_T _ | exact ⟨iR_T _, by decide, by decide⟩)
                all_goals (first | omega | exact iR_T _ | exact ⟨iR_T _, by decide, by decide⟩)
              all_goals (first | omega | exact iR_T _ | exact ⟨iR_T _, by decide, by decide⟩)
            all_goals (first | omega | exact iR_T _ | exact ⟨iR_T _, by decide, by decide⟩)
          · refine ap_go kc_59_40 ?_
            refine ai_iconst ?_; refine ap_goto rfl ?_
            refine ap_go kc_59_45 ?_
            refine ap_istore_n rfl ?_; refine ap_iload_n rfl ?_
            refine ai_ifeq rfl rfl (fun hb29 => ?_) (fun hb29 => ?_) ?_
            · refine ap_go kc_59_58 ?_
              refine ap_iload_n rfl ?_
              refine ai_ifne rfl rfl (fun hb30 => ?_) (fun hb30 => ?_) ?_
              · refine ap_go kc_59_84 ?_
                refine ap_aload_n rfl ?_; refine ap_iload_n rfl ?_
                refine ai_ifeq rfl rfl (fun hb31 => ?_) (fun hb31 => ?_) ?_
                · refine ap_go kc_59_95 ?_
                  refine ap_aload_n rfl ?_; refine ai_getI ow_59 rf_8_214 rfl rfl ?_; refine ai_iconst ?_; refine ap_iload_n rfl ?_; refine ai_ishl ?_; refine ai_ior ?_; refine ap_nil ?_
                  refine ap_go kc_59_103 ?_
                  refine ai_putI ow_59 rf_8_214 rfl rfl rfl ?_; refine ap_aload_n rfl ?_; refine ap_iload_n rfl ?_; refine ai_putI ow_59 rf_8_217 rfl rfl rfl ?_; refine ai_iconst ?_; refine ap_iret rfl ?_
                  first | (exfalso; omega) | first | exact K1  (by omega) | exact K2  (by omega) | exact K3  (by omega) | exact K4  (by omega)
                · refine ap_go kc_59_89 ?_
                  refine ai_iconst ?_; refine ap_iload_n rfl ?_; refine ai_ishl ?_; refine ap_goto rfl ?_
                  refine ap_go kc_59_103 ?_
                  refine ai_putI ow_59 rf_8_214 rfl rfl rfl ?_; refine ap_aload_n rfl ?_; refine ap_iload_n rfl ?_; refine ai_putI ow_59 rf_8_217 rfl rfl rfl ?_; refine ai_iconst ?_; refine ap_iret rfl ?_
                  first | (exfalso; omega) | first | exact K1  (by omega) | exact K2  (by omega) | exact K3  (by omega) | exact K4  (by omega)
                all_goals (first | omega | exact iR_T _ | exact ⟨iR_T _, by decide, by decide⟩)
              · refine ap_go kc_59_62 ?_
                refine ap_iload_n rfl ?_; refine ap_aload_n rfl ?_; refine ai_getI ow_59 rf_8_217 rfl rfl ?_
                refine ai_icne rfl rfl (fun hb32 => ?_) (fun hb32 => ?_) ?_
                · refine ap_go kc_59_82 ?_
                  refine ai_iconst ?_; refine ap_iret rfl ?_
                  first | (exfalso; omega) | first | exact K1  (by omega) | exact K2  (by omega) | exact K3  (by omega) | exact K4  (by omega)
                · refine ap_go kc_59_70 ?_
                  refine ap_aload_n rfl ?_; refine ai_getI ow_59 rf_8_214 rfl rfl ?_; refine ap_iload_n rfl ?_; refine ai_ishr ?_; refine ai_iconst ?_; refine ai_iand ?_; refine ai_iconst ?_
                  refine ai_icne rfl rfl (fun hb33 => ?_) (fun hb33 => ?_) ?_
                  · refine ap_go kc_59_84 ?_
                    refine ap_aload_n rfl ?_; refine ap_iload_n rfl ?_
                    refine ai_ifeq rfl rfl (fun hb34 => ?_) (fun hb34 => ?_) ?_
                    · refine ap_go kc_59_95 ?_
                      refine ap_aload_n rfl ?_; refine ai_getI ow_59 rf_8_214 rfl rfl ?_; refine ai_iconst ?_; refine ap_iload_n rfl ?_; refine ai_ishl ?_; refine ai_ior ?_; refine ap_nil ?_
                      refine ap_go kc_59_103 ?_
                      refine ai_putI ow_59 rf_8_214 rfl rfl rfl ?_; refine ap_aload_n rfl ?_; refine ap_iload_n rfl ?_; refine ai_putI ow_59 rf_8_217 rfl rfl rfl ?_; refine ai_iconst ?_; refine ap_iret rfl ?_
                      first | (exfalso; omega) | first | exact K1  (by omega) | exact K2  (by omega) | exact K3  (by omega) | exact K4  (by omega)
                    · refine ap_go kc_59_89 ?_
                      refine ai_iconst ?_; refine ap_iload_n rfl ?_; refine ai_ishl ?_; refine ap_goto rfl ?_
                      refine ap_go kc_59_103 ?_
                      refine ai_putI ow_59 rf_8_214 rfl rfl rfl ?_; refine ap_aload_n rfl ?_; refine ap_iload_n rfl ?_; refine ai_putI ow_59 rf_8_217 rfl rfl rfl ?_; refine ai_iconst ?_; refine ap_iret rfl ?_
                      first | (exfalso; omega) | first | exact K1  (by omega) | exact K2  (by omega) | exact K3  (by omega) | exact K4  (by omega)
                    all_goals (first | omega | exact iR_T _ | exact ⟨iR_T _, by decide, by decide⟩)
                  · refine ap_go kc_59_82 ?_
                    refine ai_iconst ?_; refine ap_iret rfl ?_
                    first | (exfalso; omega) | first | exact K1  (by omega) | exact K2  (by omega) | exact K3  (by omega) | exact K4  (by omega)
                  all_goals (first | omega | exact iR_T _ | exact ⟨iR_T _, by decide, by decide⟩)
                all_goals (first | omega | exact iR_T _ | exact ⟨iR_T _, by decide, by decide⟩)
              all_goals (first | omega | exact iR_T _ | exact ⟨iR_T _, by decide, by decide⟩)
            · refine ap_go kc_59_50 ?_
              refine ap_iload_n rfl ?_; refine ap_aload_n rfl ?_; refine ai_getI ow_59 rf_8_217 rfl rfl ?_
              refine ai_icle rfl rfl (fun hb35 => ?_) (fun hb35 => ?_) ?_
              · refine ap_go kc_59_82 ?_
                refine ai_iconst ?_; refine ap_iret rfl ?_
                first | (exfalso; omega) | first | exact K1  (by omega) | exact K2  (by omega) | exact K3  (by omega) | exact K4  (by omega)
              · refine ap_go kc_59_58 ?_
                refine ap_iload_n rfl ?_
                refine ai_ifne rfl rfl (fun hb36 => ?_) (fun hb36 => ?_) ?_
                · refine ap_go kc_59_84 ?_
                  refine ap_aload_n rfl ?_; refine ap_iload_n rfl ?_
                  refine ai_ifeq rfl rfl (fun hb37 => ?_) (fun hb37 => ?_) ?_
                  · refine ap_go kc_59_95 ?_
                    refine ap_aload_n rfl ?_; refine ai_getI ow_59 rf_8_214 rfl rfl ?_; refine ai_iconst ?_; refine ap_iload_n rfl ?_; refine ai_ishl ?_; refine ai_ior ?_; refine ap_nil ?_
                    refine ap_go kc_59_103 ?_
                    refine ai_putI ow_59 rf_8_214 rfl rfl rfl ?_; refine ap_aload_n rfl ?_; refine ap_iload_n rfl ?_; refine ai_putI ow_59 rf_8_217 rfl rfl rfl ?_; refine ai_iconst ?_; refine ap_iret rfl ?_
                    first | (exfalso; omega) | first | exact K1  (by omega) | exact K2  (by omega) | exact K3  (by omega) | exact K4  (by omega)
                  · refine ap_go kc_59_89 ?_
                    refine ai_iconst ?_; refine ap_iload_n rfl ?_; refine ai_ishl ?_; refine ap_goto rfl ?_
                    refine ap_go kc_59_103 ?_
                    refine ai_putI ow_59 rf_8_214 rfl rfl rfl ?_; refine ap_aload_n rfl ?_; refine ap_iload_n rfl ?_; refine ai_putI ow_59 rf_8_217 rfl rfl rfl ?_; refine ai_iconst ?_; refine ap_iret rfl ?_
                    first | (exfalso; omega) | first | exact K1  (by omega) | exact K2  (by omega) | exact K3  (by omega) | exact K4  (by omega)
                  all_goals (first | omega | exact iR_T _ | exact ⟨iR_T _, by decide, by decide⟩)
                · refine ap_go kc_59_62 ?_
                  refine ap_iload_n rfl ?_; refine ap_aload_n rfl ?_; refine ai_getI ow_59 rf_8_217 rfl rfl ?_
                  refine ai_icne rfl rfl (fun hb38 => ?_) (fun hb38 => ?_) ?_
                  · refine ap_go kc_59_82 ?_
                    refine ai_iconst ?_; refine ap_iret rfl ?_
                    first | (exfalso; omega) | first | exact K1  (by omega) | exact K2  (by omega) | exact K3  (by omega) | exact K4  (by omega)
                  · refine ap_go kc_59_70 ?_
                    refine ap_aload_n rfl ?_; refine ai_getI ow_59 rf_8_214 rfl rfl ?_; refine ap_iload_n rfl ?_; refine ai_ishr ?_; refine ai_iconst ?_; refine ai_iand ?_; refine ai_iconst ?_
                    refine ai_icne rfl rfl (fun hb39 => ?_) (fun hb39 => ?_) ?_
                    · refine ap_go kc_59_84 ?_
                      refine ap_aload_n rfl ?_; refine ap_iload_n rfl ?_
                      refine ai_ifeq rfl rfl (fun hb40 => ?_) (fun hb40 => ?_) ?_
                      · refine ap_go kc_59_95 ?_
                        refine ap_aload_n rfl ?_; refine ai_getI ow_59 rf_8_214 rfl rfl ?_; refine ai_iconst ?_; refine ap_iload_n rfl ?_; refine ai_ishl ?_; refine ai_ior ?_; refine ap_nil ?_
                        refine ap_go kc_59_103 ?_
                        refine ai_putI ow_59 rf_8_214 rfl rfl rfl ?_; refine ap_aload_n rfl ?_; refine ap_iload_n rfl ?_; refine ai_putI ow_59 rf_8_217 rfl rfl rfl ?_; refine ai_iconst ?_; refine ap_iret rfl ?_
                        first | (exfalso; omega) | first | exact K1  (by omega) | exact K2  (by omega) | exact K3  (by omega) | exact K4  (by omega)
                      · refine ap_go kc_59_89 ?_
                        refine ai_iconst ?_; refine ap_iload_n rfl ?_; refine ai_ishl ?_; refine ap_goto rfl ?_
                        refine ap_go kc_59_103 ?_
                        refine ai_putI ow_59 rf_8_214 rfl rfl rfl ?_; refine ap_aload_n rfl ?_; refine ap_iload_n rfl ?_; refine ai_putI ow_59 rf_8_217 rfl rfl rfl ?_; refine ai_iconst ?_; refine ap_iret rfl ?_
                        first | (exfalso; omega) | first | exact K1  (by omega) | exact K2  (by omega) | exact K3  (by omega) | exact K4  (by omega)
                      all_goals (first | omega | exact iR_T _ | exact ⟨iR_T _, by decide, by decide⟩)
                    · refine ap_go kc_59_82 ?_
                      refine ai_iconst ?_; refine ap_iret rfl ?_
                      first | (exfalso; omega) | first | exact K1  (by omega) | exact K2  (by omega) | exact K3  (by omega) | exact K4  (by omega)
                    all_goals (first | omega | exact iR_T _ | exact ⟨iR_T _, by decide, by decide⟩)
                  all_goals (first | omega | exact iR_T _ | exact ⟨iR_T _, by decide, by decide⟩)
                all_goals (first | omega | exact iR_T _ | exact ⟨iR_T _, by decide, by decide⟩)
              all_goals (first | omega | exact iR_T _ | exact ⟨iR_T _, by decide, by decide⟩)
            all_goals (first | omega | exact iR_T _ | exact ⟨iR_T _, by decide, by decide⟩)
          all_goals (first | omega | exact iR_T _ | exact ⟨iR_T _, by decide, by decide⟩)
        all_goals (first | omega | exact iR_T _ | exact ⟨iR_T _, by decide, by decide⟩)
      · refine ap_go kc_59_20 ?_
        refine ai_bipush (by decide) ?_; refine ap_iret rfl ?_
        first | (exfalso; omega) | first | exact K1  (by omega) | exact K2  (by omega) | exact K3  (by omega) | exact K4  (by omega)
      all_goals (first | omega | exact iR_T _ | exact ⟨iR_T _, by decide, by decide⟩)
    all_goals (first | omega | exact iR_T _ | exact ⟨iR_T _, by decide, by decide⟩)
  all_goals (first | omega | exact iR_T _ | exact ⟨iR_T _, by decide, by decide⟩)

abbrev begM (f : Nat → Nat → Int) (n : Int) : Bool := bAll (fun k => decide (97 + letZ n k = f 51 k)) (f 31 32).toNat
theorem lp_58i {d L : Nat} {sw : Bool} {f g : Nat → Nat → Int} {Q : Option Value → am_H → Prop} {c sm n : Int} (hs : 0 ≤ f 31 32 ∧ f 31 32 ≤ 3) (hn : 0 ≤ n ∧ n < 1000) (hv : ∀ k, iR (f 51 k)) (J : ∀ is : Int, is = (if begM f n = true then 1 else 0) → am_Wp (am_call (d + 1)) 58 Q 132 [some (.ref 31), none, some (.int (iZ sm)), some (.int (iZ n)), some (.int (iZ is)), none] [] (53, sh_lt L, iH f, jH g, sh_rt sw) (0, 0)) : ∀ (m k : Nat) (is i : Int), (f 31 32).toNat = k + m → is = (if bAll (fun k => decide (97 + letZ n k = f 51 k)) k = true then 1 else 0) → i = k → am_Wp (am_call (d + 1)) 58 Q 89 [some (.ref 31), none, some (.int (iZ sm)), some (.int (iZ n)), some (.int (iZ is)), some (.int (iZ i))] [] (53, sh_lt L, iH f, jH g, sh_rt sw) (0, 0) := by
  intro m
  induction m with
  | zero =>
    intro k is i hk eis ei
    refine ap_go kc_58_89 ?_
    refine ap_iload rfl ?_; refine ap_aload_n rfl ?_; refine ai_getI ow_58 rf_8_207 rfl rfl ?_
    refine ai_icge rfl rfl (fun hc0 => ?_) (fun hc0 => ?_) ?_
    · exact am_weak (by first | exact am_le_0 | (repeat (first | exact am_le_0 | refine am_le_n ?_ | refine am_le_s ?_))) (J is (by rw [eis]; unfold begM; rw [hk]; rfl))
    · exfalso; omega
    all_goals (omega)
  | succ m ih =>
    intro k is i hk eis ei
    have e1 : i.toNat = k := by omega
    have hl := let_in (n := n) (i := i) (by omega)
    have hlb : 0 ≤ letZ n i ∧ letZ n i ≤ 1000 := by
      unfold letZ
      repeat' split
      all_goals omega
    have hvk := hv i.toNat
    have hib : iR is := by rw [eis]; split <;> omega
    refine ap_go kc_58_89 ?_
    refine ap_iload rfl ?_; refine ap_aload_n rfl ?_; refine ai_getI ow_58 rf_8_207 rfl rfl ?_
    refine ai_icge rfl rfl (fun hc0 => ?_) (fun hc0 => ?_) ?_
    · exfalso; omega
    · refine ap_go kc_58_98 ?_
      refine ap_iload rfl ?_
      refine ai_ifeq rfl rfl (fun hc1 => ?_) (fun hc1 => ?_) ?_
      · refine ap_go kc_58_123 ?_
        refine ai_iconst ?_; refine ap_nil ?_
        refine ap_go kc_58_124 ?_
        refine ap_istore rfl ?_; refine ai_iinc rfl rfl ?_; refine ap_goto rfl ?_
        (try rw [e1, ei] at hc2); exact ih (k + 1) _ _ (by omega) (by simp only [bAll, Bool.and_eq_true, decide_eq_true_eq]; split at eis <;> split <;> simp_all) (by omega)
      · refine ap_go kc_58_103 ?_
        refine ap_iload_n rfl ?_; refine ap_iload rfl ?_; refine ap_calls0 ow_58 rm_8_210 na_57 mc_57 ms_57 rfl rfl (Nat.le_of_ble_eq_true rfl) (Nat.le_of_ble_eq_true rfl) rfl (Nat.zero_le _) (Nat.zero_le _) ?_; refine sp_57 ?_ ?_ ?_; dsimp only [Option.toList_some, Option.toList_none, List.cons_append, List.nil_append]; refine ap_aload_n rfl ?_; refine ap_getR ow_58 rf_8_79 rfl rfl rfl ?_; refine ap_iload rfl ?_; refine ai_iaload (n := 3) rfl rfl (by decide) ?_ ?_
        refine ai_icne rfl rfl (fun hc2 => ?_) (fun hc2 => ?_) ?_
        · refine ap_go kc_58_123 ?_
          refine ai_iconst ?_; refine ap_nil ?_
          refine ap_go kc_58_124 ?_
          refine ap_istore rfl ?_; refine ai_iinc rfl rfl ?_; refine ap_goto rfl ?_
          (try rw [e1, ei] at hc2); exact ih (k + 1) _ _ (by omega) (by simp only [bAll, Bool.and_eq_true, decide_eq_true_eq]; split at eis <;> split <;> simp_all) (by omega)
        · refine ap_go kc_58_119 ?_
          refine ai_iconst ?_; refine ap_goto rfl ?_
          refine ap_go kc_58_124 ?_
          refine ap_istore rfl ?_; refine ai_iinc rfl rfl ?_; refine ap_goto rfl ?_
          (try rw [e1, ei] at hc2); exact ih (k + 1) _ _ (by omega) (by simp only [bAll, Bool.and_eq_true, decide_eq_true_eq]; split at eis <;> split <;> simp_all) (by omega)
        all_goals (first | omega | exact ⟨hvk, by omega⟩ | exact ⟨by omega, hvk⟩)
      all_goals (first | omega | exact ⟨hvk, by omega⟩ | exact ⟨by omega, hvk⟩)
    all_goals (first | omega | exact ⟨hvk, by omega⟩ | exact ⟨by omega, hvk⟩)
end
section
/-! THE FACE: search of the reference, advice of both -/
theorem lp_58 {d L : Nat} {sw : Bool} {f g : Nat → Nat → Int} {Q : Option Value → am_H → Prop} (hs : 0 ≤ f 31 32 ∧ f 31 32 ≤ 3) (hN : 0 ≤ f 31 1 ∧ f 31 1 ≤ 60) (hv : ∀ k, iR (f 51 k)) (K : Q (some (.int (iZ (cZ (fun n => begM f n) (f 31 1).toNat)))) (53, sh_lt L, iH f, jH g, sh_rt sw)) : ∀ (m k : Nat) (sm i : Int), (f 31 1).toNat = k + m → sm = cZ (fun n => begM f n) k → i = k + 1 → am_Wp (am_call (d + 1)) 58 Q 75 [some (.ref 31), none, some (.int (iZ sm)), some (.int (iZ i)), none, none] [] (53, sh_lt L, iH f, jH g, sh_rt sw) (0, 0) := by
  intro m
  induction m with
  | zero =>
    intro k sm i hk es ei
    have hb := cZ_in (fun n => begM f n) k
    refine ap_go kc_58_75 ?_
    refine ap_iload_n rfl ?_; refine ap_aload_n rfl ?_; refine ai_getI ow_58 rf_8_85 rfl rfl ?_
    refine ai_icgt rfl rfl (fun hc0 => ?_) (fun hc0 => ?_) ?_
    · refine ap_go kc_58_151 ?_
      refine ap_iload_n rfl ?_; refine ap_iret rfl ?_
      rw [hk] at K; rw [es]; exact K
    · exfalso; omega
    all_goals (omega)
  | succ m ih =>
    intro k sm i hk es ei
    have hb := cZ_in (fun n => begM f n) k
    have ei' : i = ((k + 1 : Nat) : Int) := by omega
    have J : ∀ is : Int, is = (if begM f i = true then 1 else 0) → am_Wp (am_call (d + 1)) 58 Q 132 [some (.ref 31), none, some (.int (iZ sm)), some (.int (iZ i)), some (.int (iZ is)), none] [] (53, sh_lt L, iH f, jH g, sh_rt sw) (0, 0) := by
      intro is eis
      have hib : iR is := by rw [eis]; split <;> omega
      refine ap_go kc_58_132 ?_
      refine ap_iload rfl ?_
      refine ai_ifeq rfl rfl (fun he0 => ?_) (fun he0 => ?_) ?_
      · refine ap_go kc_58_143 ?_
        refine ap_iload_n rfl ?_; refine ap_nil ?_
        refine ap_go kc_58_144 ?_
        refine ap_istore_n rfl ?_; refine ai_iinc rfl rfl ?_; refine ap_goto rfl ?_
        exact am_weak (by first | exact am_le_0 | (repeat (first | exact am_le_0 | refine am_le_n ?_ | refine am_le_s ?_))) (ih (k + 1) _ _ (by omega) (by rw [ei'] at eis; simp only [cZ]; split at eis <;> split <;> first | omega | contradiction) (by omega))
      · refine ap_go kc_58_137 ?_
        refine ap_iload_n rfl ?_; refine ai_iconst ?_; refine ai_iadd ?_; refine ap_goto rfl ?_
        refine ap_go kc_58_144 ?_
        refine ap_istore_n rfl ?_; refine ai_iinc rfl rfl ?_; refine ap_goto rfl ?_
        exact am_weak (by first | exact am_le_0 | (repeat (first | exact am_le_0 | refine am_le_n ?_ | refine am_le_s ?_))) (ih (k + 1) _ _ (by omega) (by rw [ei'] at eis; simp only [cZ]; split at eis <;> split <;> first | omega | contradiction) (by omega))
      all_goals (omega)
    refine ap_go kc_58_75 ?_
    refine ap_iload_n rfl ?_; refine ap_aload_n rfl ?_; refine ai_getI ow_58 rf_8_85 rfl rfl ?_
    refine ai_icgt rfl rfl (fun hc0 => ?_) (fun hc0 => ?_) ?_
    · exfalso; omega
    · refine ap_go kc_58_83 ?_
      refine ai_iconst ?_; refine ap_istore rfl ?_; refine ai_iconst ?_; refine ap_istore rfl ?_; refine ap_nil ?_
      exact am_weak (by first | exact am_le_0 | (repeat (first | exact am_le_0 | refine am_le_n ?_ | refine am_le_s ?_))) (lp_58i (c := 0) hs (by omega) hv J (f 31 32).toNat 0 1 0 (by omega) rfl rfl)
    all_goals (omega)

theorem sp_58 {d L : Nat} {sw : Bool} {f g : Nat → Nat → Int} {Q : Option Value → am_H → Prop} {f1 : Nat → Nat → Int} {c : Int} (hf : am_up f 31 0 0 = f1) (K1 : ¬ (c = 0 ∨ 97 ≤ c ∧ c ≤ 122) → Q (some (.int (iZ (-2)))) (53, sh_lt L, iH f1, jH g, sh_rt sw)) (K2 : 97 ≤ c ∧ c ≤ 122 ∧ f1 31 32 = 3 → Q (some (.int (iZ (-3)))) (53, sh_lt L, iH f1, jH g, sh_rt sw)) (K3 : c = 0 → Q (some (.int (iZ (cZ (fun n => begM (am_up f1 31 32 0) n) (f1 31 1).toNat)))) (53, sh_lt L, iH (am_up f1 31 32 0), jH g, sh_rt sw)) (K4 : 97 ≤ c ∧ c ≤ 122 ∧ f1 31 32 < 3 → Q (some (.int (iZ (cZ (fun n => begM (am_up (am_up f1 51 (f1 31 32).toNat c) 31 32 (f1 31 32 + 1)) n) (f1 31 1).toNat)))) (53, sh_lt L, iH (am_up (am_up f1 51 (f1 31 32).toNat c) 31 32 (f1 31 32 + 1)), jH g, sh_rt sw)) (hc : iR c) (hs : 0 ≤ f1 31 32 ∧ f1 31 32 ≤ 3) (hN : 0 ≤ f1 31 1 ∧ f1 31 1 ≤ 60) (hv : ∀ k, iR (f1 51 k)) : am_call (d + 2) 58 [.ref 31, .int (iZ c)] (53, sh_lt L, iH f, jH g, sh_rt sw) Q := by
  refine ap_call (by decide) (Nat.le_of_ble_eq_true rfl) rfl ?_
  refine ap_go kc_58_0 ?_
  refine ap_aload_n rfl ?_; refine ai_iconst ?_; refine ai_putI ow_58 rf_8_82 rfl rfl rfl ?_
  rw [hf]
  refine ap_iload_n rfl ?_
  refine ai_ifeq rfl rfl (fun hb0 => ?_) (fun hb0 => ?_) ?_
  · refine ap_go kc_58_24 ?_
    refine ap_iload_n rfl ?_
    refine ai_ifeq rfl rfl (fun hb1 => ?_) (fun hb1 => ?_) ?_
    · refine ap_go kc_58_39 ?_
      refine ap_iload_n rfl ?_
      refine ai_ifle rfl rfl (fun hb2 => ?_) (fun hb2 => ?_) ?_
      · refine ap_go kc_58_53 ?_
        refine ap_aload_n rfl ?_; refine ap_iload_n rfl ?_
        refine ai_ifne rfl rfl (fun hb3 => ?_) (fun hb3 => ?_) ?_
        · refine ap_go kc_58_62 ?_
          refine ap_aload_n rfl ?_; refine ai_getI ow_58 rf_8_207 rfl rfl ?_; refine ai_iconst ?_; refine ai_iadd ?_; refine ap_nil ?_
          refine ap_go kc_58_68 ?_
          refine ai_putI ow_58 rf_8_207 rfl rfl rfl ?_; refine ai_iconst ?_; refine ap_istore_n rfl ?_; refine ai_iconst ?_; refine ap_istore_n rfl ?_; refine ap_nil ?_
          first | (exfalso; omega) | exact am_weak (by first | exact am_le_0 | (repeat (first | exact am_le_0 | refine am_le_n ?_ | refine am_le_s ?_))) (lp_58 (f := (am_up f1 31 32 0)) (by simp [am_up]) hN (fun k => hv k) (K3 (by omega)) (f1 31 1).toNat 0 0 1 (by show (f1 31 1).toNat = _; omega) rfl rfl) | exact am_weak (by first | exact am_le_0 | (repeat (first | exact am_le_0 | refine am_le_n ?_ | refine am_le_s ?_))) (lp_58 (f := (am_up (am_up f1 51 (f1 31 32).toNat c) 31 32 (f1 31 32 + 1))) (by simp [am_up]; omega) hN (fun k => by simp only [am_up]; split; omega; split; omega; exact hv k) (K4 (by omega)) (f1 31 1).toNat 0 0 1 (by show (f1 31 1).toNat = _; omega) rfl rfl)
        · refine ap_go kc_58_58 ?_
          refine ai_iconst ?_; refine ap_goto rfl ?_
          refine ap_go kc_58_68 ?_
          refine ai_putI ow_58 rf_8_207 rfl rfl rfl ?_; refine ai_iconst ?_; refine ap_istore_n rfl ?_; refine ai_iconst ?_; refine ap_istore_n rfl ?_; refine ap_nil ?_
          first | (exfalso; omega) | exact am_weak (by first | exact am_le_0 | (repeat (first | exact am_le_0 | refine am_le_n ?_ | refine am_le_s ?_))) (lp_58 (f := (am_up f1 31 32 0)) (by simp [am_up]) hN (fun k => hv k) (K3 (by omega)) (f1 31 1).toNat 0 0 1 (by show (f1 31 1).toNat = _; omega) rfl rfl) | exact am_weak (by first | exact am_le_0 | (repeat (first | exact am_le_0 | refine am_le_n ?_ | refine am_le_s ?_))) (lp_58 (f := (am_up (am_up f1 51 (f1 31 32).toNat c) 31 32 (f1 31 32 + 1))) (by simp [am_up]; omega) hN (fun k => by simp only [am_up]; split; omega; split; omega; exact hv k) (K4 (by omega)) (f1 31 1).toNat 0 0 1 (by show (f1 31 1).toNat = _; omega) rfl rfl)
        all_goals (first | omega | (simp [am_up] <;> omega))
      · refine ap_go kc_58_43 ?_
        refine ap_aload_n rfl ?_; refine ap_getR ow_58 rf_8_79 rfl rfl rfl ?_; refine ap_aload_n rfl ?_; refine ai_getI ow_58 rf_8_207 rfl rfl ?_; refine ap_iload_n rfl ?_; refine ai_iastore (n := 3) rfl rfl (by decide) ?_ ?_; refine ap_nil ?_
        · refine ap_go kc_58_53 ?_
          refine ap_aload_n rfl ?_; refine ap_iload_n rfl ?_
          refine ai_ifne rfl rfl (fun hb4 => ?_) (fun hb4 => ?_) ?_
          · refine ap_go kc_58_62 ?_
            refine ap_aload_n rfl ?_; refine ai_getI ow_58 rf_8_207 rfl rfl ?_; refine ai_iconst ?_; refine ai_iadd ?_; refine ap_nil ?_
            refine ap_go kc_58_68 ?_
            refine ai_putI ow_58 rf_8_207 rfl rfl rfl ?_; refine ai_iconst ?_; refine ap_istore_n rfl ?_; refine ai_iconst ?_; refine ap_istore_n rfl ?_; refine ap_nil ?_
            first | (exfalso; omega) | exact am_weak (by first | exact am_le_0 | (repeat (first | exact am_le_0 | refine am_le_n ?_ | refine am_le_s ?_))) (lp_58 (f := (am_up f1 31 32 0)) (by simp [am_up]) hN (fun k => hv k) (K3 (by omega)) (f1 31 1).toNat 0 0 1 (by show (f1 31 1).toNat = _; omega) rfl rfl) | exact am_weak (by first | exact am_le_0 | (repeat (first | exact am_le_0 | refine am_le_n ?_ | refine am_le_s ?_))) (lp_58 (f := (am_up (am_up f1 51 (f1 31 32).toNat c) 31 32 (f1 31 32 + 1))) (by simp [am_up]; omega) hN (fun k => by simp only [am_up]; split; omega; split; omega; exact hv k) (K4 (by omega)) (f1 31 1).toNat 0 0 1 (by show (f1 31 1).toNat = _; omega) rfl rfl)
          · refine ap_go kc_58_58 ?_
            refine ai_iconst ?_; refine ap_goto rfl ?_
            refine ap_go kc_58_68 ?_
            refine ai_putI ow_58 rf_8_207 rfl rfl rfl ?_; refine ai_iconst ?_; refine ap_istore_n rfl ?_; refine ai_iconst ?_; refine ap_istore_n rfl ?_; refine ap_nil ?_
            first | (exfalso; omega) | exact am_weak (by first | exact am_le_0 | (repeat (first | exact am_le_0 | refine am_le_n ?_ | refine am_le_s ?_))) (lp_58 (f := (am_up f1 31 32 0)) (by simp [am_up]) hN (fun k => hv k) (K3 (by omega)) (f1 31 1).toNat 0 0 1 (by show (f1 31 1).toNat = _; omega) rfl rfl) | exact am_weak (by first | exact am_le_0 | (repeat (first | exact am_le_0 | refine am_le_n ?_ | refine am_le_s ?_))) (lp_58 (f := (am_up (am_up f1 51 (f1 31 32).toNat c) 31 32 (f1 31 32 + 1))) (by simp [am_up]; omega) hN (fun k => by simp only [am_up]; split; omega; split; omega; exact hv k) (K4 (by omega)) (f1 31 1).toNat 0 0 1 (by show (f1 31 1).toNat = _; omega) rfl rfl)
          all_goals (first | omega | (simp [am_up] <;> omega))
        all_goals (first | omega | (simp [am_up] <;> omega))
      all_goals (first | omega | (simp [am_up] <;> omega))
    · refine ap_go kc_58_28 ?_
      refine ap_aload_n rfl ?_; refine ai_getI ow_58 rf_8_207 rfl rfl ?_; refine ai_iconst ?_
      refine ai_icne rfl rfl (fun hb5 => ?_) (fun hb5 => ?_) ?_
      · refine ap_go kc_58_39 ?_
        refine ap_iload_n rfl ?_
        refine ai_ifle rfl rfl (fun hb6 => ?_) (fun hb6 => ?_) ?_
        · refine ap_go kc_58_53 ?_
          refine ap_aload_n rfl ?_; refine ap_iload_n rfl ?_
          refine ai_ifne rfl rfl (fun hb7 => ?_) (fun hb7 => ?_) ?_
          · refine ap_go kc_58_62 ?_
            refine ap_aload_n rfl ?_; refine ai_getI ow_58 rf_8_207 rfl rfl ?_; refine ai_iconst ?_; refine ai_iadd ?_; refine ap_nil ?_
            refine ap_go kc_58_68 ?_
            refine ai_putI ow_58 rf_8_207 rfl rfl rfl ?_; refine ai_iconst ?_; refine ap_istore_n rfl ?_; refine ai_iconst ?_; refine ap_istore_n rfl ?_; refine ap_nil ?_
            first | (exfalso; omega) | exact am_weak (by first | exact am_le_0 | (repeat (first | exact am_le_0 | refine am_le_n ?_ | refine am_le_s ?_))) (lp_58 (f := (am_up f1 31 32 0)) (by simp [am_up]) hN (fun k => hv k) (K3 (by omega)) (f1 31 1).toNat 0 0 1 (by show (f1 31 1).toNat = _; omega) rfl rfl) | exact am_weak (by first | exact am_le_0 | (repeat (first | exact am_le_0 | refine am_le_n ?_ | refine am_le_s ?_))) (lp_58 (f := (am_up (am_up f1 51 (f1 31 32).toNat c) 31 32 (f1 31 32 + 1))) (by simp [am_up]; omega) hN (fun k => by simp only [am_up]; split; omega; split; omega; exact hv k) (K4 (by omega)) (f1 31 1).toNat 0 0 1 (by show (f1 31 1).toNat = _; omega) rfl rfl)
          · refine ap_go kc_58_58 ?_
            refine ai_iconst ?_; refine ap_goto rfl ?_
            refine ap_go kc_58_68 ?_
            refine ai_putI ow_58 rf_8_207 rfl rfl rfl ?_; refine ai_iconst ?_; refine ap_istore_n rfl ?_; refine ai_iconst ?_; refine ap_istore_n rfl ?_; refine ap_nil ?_
            first | (exfalso; omega) | exact am_weak (by first | exact am_le_0 | (repeat (first | exact am_le_0 | refine am_le_n ?_ | refine am_le_s ?_))) (lp_58 (f := (am_up f1 31 32 0)) (by simp [am_up]) hN (fun k => hv k) (K3 (by omega)) (f1 31 1).toNat 0 0 1 (by show (f1 31 1).toNat = _; omega) rfl rfl) | exact am_weak (by first | exact am_le_0 | (repeat (first | exact am_le_0 | refine am_le_n ?_ | refine am_le_s ?_))) (lp_58 (f := (am_up (am_up f1 51 (f1 31 32).toNat c) 31 32 (f1 31 32 + 1))) (by simp [am_up]; omega) hN (fun k => by simp only [am_up]; split; omega; split; omega; exact hv k) (K4 (by omega)) (f1 31 1).toNat 0 0 1 (by show (f1 31 1).toNat = _; omega) rfl rfl)
          all_goals (first | omega | (simp [am_up] <;> omega))
        · refine ap_go kc_58_43 ?_
          refine ap_aload_n rfl ?_; refine ap_getR ow_58 rf_8_79 rfl rfl rfl ?_; refine ap_aload_n rfl ?_; refine ai_getI ow_58 rf_8_207 rfl rfl ?_; refine ap_iload_n rfl ?_; refine ai_iastore (n := 3) rfl rfl (by decide) ?_ ?_; refine ap_nil ?_
          · refine ap_go kc_58_53 ?_
            refine ap_aload_n rfl ?_; refine ap_iload_n rfl ?_
            refine ai_ifne rfl rfl (fun hb8 => ?_) (fun hb8 => ?_) ?_
            · refine ap_go kc_58_62 ?_
              refine ap_aload_n rfl ?_; refine ai_getI ow_58 rf_8_207 rfl rfl ?_; refine ai_iconst ?_; refine ai_iadd ?_; refine ap_nil ?_
              refine ap_go kc_58_68 ?_
              refine ai_putI ow_58 rf_8_207 rfl rfl rfl ?_; refine ai_iconst ?_; refine ap_istore_n rfl ?_; refine ai_iconst ?_; refine ap_istore_n rfl ?_; refine ap_nil ?_
              first | (exfalso; omega) | exact am_weak (by first | exact am_le_0 | (repeat (first | exact am_le_0 | refine am_le_n ?_ | refine am_le_s ?_))) (lp_58 (f := (am_up f1 31 32 0)) (by simp [am_up]) hN (fun k => hv k) (K3 (by omega)) (f1 31 1).toNat 0 0 1 (by show (f1 31 1).toNat = _; omega) rfl rfl) | exact am_weak (by first | exact am_le_0 | (repeat (first | exact am_le_0 | refine am_le_n ?_ | refine am_le_s ?_))) (lp_58 (f := (am_up (am_up f1 51 (f1 31 32).toNat c) 31 32 (f1 31 32 + 1))) (by simp [am_up]; omega) hN (fun k => by simp only [am_up]; split; omega; split; omega; exact hv k) (K4 (by omega)) (f1 31 1).toNat 0 0 1 (by show (f1 31 1).toNat = _; omega) rfl rfl)
            · refine ap_go kc_58_58 ?_
              refine ai_iconst ?_; refine ap_goto rfl ?_
              refine ap_go kc_58_68 ?_
              refine ai_putI ow_58 rf_8_207 rfl rfl rfl ?_; refine ai_iconst ?_; refine ap_istore_n rfl ?_; refine ai_iconst ?_; refine ap_istore_n rfl ?_; refine ap_nil ?_
              first | (exfalso; omega) | exact am_weak (by first | exact am_le_0 | (repeat (first | exact am_le_0 | refine am_le_n ?_ | refine am_le_s ?_))) (lp_58 (f := (am_up f1 31 32 0)) (by simp [am_up]) hN (fun k => hv k) (K3 (by omega)) (f1 31 1).toNat 0 0 1 (by show (f1 31 1).toNat = _; omega) rfl rfl) | exact am_weak (by first | exact am_le_0 | (repeat (first | exact am_le_0 | refine am_le_n ?_ | refine am_le_s ?_))) (lp_58 (f := (am_up (am_up f1 51 (f1 31 32).toNat c) 31 32 (f1 31 32 + 1))) (by simp [am_up]; omega) hN (fun k => by simp only [am_up]; split; omega; split; omega; exact hv k) (K4 (by omega)) (f1 31 1).toNat 0 0 1 (by show (f1 31 1).toNat = _; omega) rfl rfl)
            all_goals (first | omega | (simp [am_up] <;> omega))
          all_goals (first | omega | (simp [am_up] <;> omega))
        all_goals (first | omega | (simp [am_up] <;> omega))
      · refine ap_go kc_58_36 ?_
        refine ai_bipush (by decide) ?_; refine ap_iret rfl ?_
        first | exact K1  (by omega) | exact K2  (by omega) | exact K3  (by omega) | exact K4  (by omega)
      all_goals (first | omega | (simp [am_up] <;> omega))
    all_goals (first | omega | (simp [am_up] <;> omega))
  · refine ap_go kc_58_9 ?_
    refine ap_iload_n rfl ?_; refine ai_bipush (by decide) ?_
    refine ai_iclt rfl rfl (fun hb9 => ?_) (fun hb9 => ?_) ?_
    · refine ap_go kc_58_21 ?_
      refine ai_bipush (by decide) ?_; refine ap_iret rfl ?_
      first | exact K1  (by omega) | exact K2  (by omega) | exact K3  (by omega) | exact K4  (by omega)
    · refine ap_go kc_58_15 ?_
      refine ap_iload_n rfl ?_; refine ai_bipush (by decide) ?_
      refine ai_icle rfl rfl (fun hb10 => ?_) (fun hb10 => ?_) ?_
      · refine ap_go kc_58_24 ?_
        refine ap_iload_n rfl ?_
        refine ai_ifeq rfl rfl (fun hb11 => ?_) (fun hb11 => ?_) ?_
        · refine ap_go kc_58_39 ?_
          refine ap_iload_n rfl ?_
          refine ai_ifle rfl rfl (fun hb12 => ?_) (fun hb12 => ?_) ?_
          · refine ap_go kc_58_53 ?_
            refine ap_aload_n rfl ?_; refine ap_iload_n rfl ?_
            refine ai_ifne rfl rfl (fun hb13 => ?_) (fun hb13 => ?_) ?_
            · refine ap_go kc_58_62 ?_
              refine ap_aload_n rfl ?_; refine ai_getI ow_58 rf_8_207 rfl rfl ?_; refine ai_iconst ?_; refine ai_iadd ?_; refine ap_nil ?_
              refine ap_go kc_58_68 ?_
              refine ai_putI ow_58 rf_8_207 rfl rfl rfl ?_; refine ai_iconst ?_; refine ap_istore_n rfl ?_; refine ai_iconst ?_; refine ap_istore_n rfl ?_; refine ap_nil ?_
              first | (exfalso; omega) | exact am_weak (by first | exact am_le_0 | (repeat (first | exact am_le_0 | refine am_le_n ?_ | refine am_le_s ?_))) (lp_58 (f := (am_up f1 31 32 0)) (by simp [am_up]) hN (fun k => hv k) (K3 (by omega)) (f1 31 1).toNat 0 0 1 (by show (f1 31 1).toNat = _; omega) rfl rfl) | exact am_weak (by first | exact am_le_0 | (repeat (first | exact am_le_0 | refine am_le_n ?_ | refine am_le_s ?_))) (lp_58 (f := (am_up (am_up f1 51 (f1 31 32).toNat c) 31 32 (f1 31 32 + 1))) (by simp [am_up]; omega) hN (fun k => by simp only [am_up]; split; omega; split; omega; exact hv k) (K4 (by omega)) (f1 31 1).toNat 0 0 1 (by show (f1 31 1).toNat = _; omega) rfl rfl)
            · refine ap_go kc_58_58 ?_
              refine ai_iconst ?_; refine ap_goto rfl ?_
              refine ap_go kc_58_68 ?_
              refine ai_putI ow_58 rf_8_207 rfl rfl rfl ?_; refine ai_iconst ?_; refine ap_istore_n rfl ?_; refine ai_iconst ?_; refine ap_istore_n rfl ?_; refine ap_nil ?_
              first | (exfalso; omega) | exact am_weak (by first | exact am_le_0 | (repeat (first | exact am_le_0 | refine am_le_n ?_ | refine am_le_s ?_))) (lp_58 (f := (am_up f1 31 32 0)) (by simp [am_up]) hN (fun k => hv k) (K3 (by omega)) (f1 31 1).toNat 0 0 1 (by show (f1 31 1).toNat = _; omega) rfl rfl) | exact am_weak (by first | exact am_le_0 | (repeat (first | exact am_le_0 | refine am_le_n ?_ | refine am_le_s ?_))) (lp_58 (f := (am_up (am_up f1 51 (f1 31 32).toNat c) 31 32 (f1 31 32 + 1))) (by simp [am_up]; omega) hN (fun k => by simp only [am_up]; split; omega; split; omega; exact hv k) (K4 (by omega)) (f1 31 1).toNat 0 0 1 (by show (f1 31 1).toNat = _; omega) rfl rfl)
            all_goals (first | omega | (simp [am_up] <;> omega))
          · refine ap_go kc_58_43 ?_
            refine ap_aload_n rfl ?_; refine ap_getR ow_58 rf_8_79 rfl rfl rfl ?_; refine ap_aload_n rfl ?_; refine ai_getI ow_58 rf_8_207 rfl rfl ?_; refine ap_iload_n rfl ?_; refine ai_iastore (n := 3) rfl rfl (by decide) ?_ ?_; refine ap_nil ?_
            · refine ap_go kc_58_53 ?_
              refine ap_aload_n rfl ?_; refine ap_iload_n rfl ?_
              refine ai_ifne rfl rfl (fun hb14 => ?_) (fun hb14 => ?_) ?_
              · refine ap_go kc_58_62 ?_
                refine ap_aload_n rfl ?_; refine ai_getI ow_58 rf_8_207 rfl rfl ?_; refine ai_iconst ?_; refine ai_iadd ?_; refine ap_nil ?_
                refine ap_go kc_58_68 ?_
                refine ai_putI ow_58 rf_8_207 rfl rfl rfl ?_; refine ai_iconst ?_; refine ap_istore_n rfl ?_; refine ai_iconst ?_; refine ap_istore_n rfl ?_; refine ap_nil ?_
                first | (exfalso; omega) | exact am_weak (by first | exact am_le_0 | (repeat (first | exact am_le_0 | refine am_le_n ?_ | refine am_le_s ?_))) (lp_58 (f := (am_up f1 31 32 0)) (by simp [am_up]) hN (fun k => hv k) (K3 (by omega)) (f1 31 1).toNat 0 0 1 (by show (f1 31 1).toNat = _; omega) rfl rfl) | exact am_weak (by first | exact am_le_0 | (repeat (first | exact am_le_0 | refine am_le_n ?_ | refine am_le_s ?_))) (lp_58 (f := (am_up (am_up f1 51 (f1 31 32).toNat c) 31 32 (f1 31 32 + 1))) (by simp [am_up]; omega) hN (fun k => by simp only [am_up]; split; omega; split; omega; exact hv k) (K4 (by omega)) (f1 31 1).toNat 0 0 1 (by show (f1 31 1).toNat = _; omega) rfl rfl)
              · refine ap_go kc_58_58 ?_
                refine ai_iconst ?_; refine ap_goto rfl ?_
                refine ap_go kc_58_68 ?_
                refine ai_putI ow_58 rf_8_207 rfl rfl rfl ?_; refine ai_iconst ?_; refine ap_istore_n rfl ?_; refine ai_iconst ?_; refine ap_istore_n rfl ?_; refine ap_nil ?_
                first | (exfalso; omega) | exact am_weak (by first | exact am_le_0 | (repeat (first | exact am_le_0 | refine am_le_n ?_ | refine am_le_s ?_))) (lp_58 (f := (am_up f1 31 32 0)) (by simp [am_up]) hN (fun k => hv k) (K3 (by omega)) (f1 31 1).toNat 0 0 1 (by show (f1 31 1).toNat = _; omega) rfl rfl) | exact am_weak (by first | exact am_le_0 | (repeat (first | exact am_le_0 | refine am_le_n ?_ | refine am_le_s ?_))) (lp_58 (f := (am_up (am_up f1 51 (f1 31 32).toNat c) 31 32 (f1 31 32 + 1))) (by simp [am_up]; omega) hN (fun k => by simp only [am_up]; split; omega; split; omega; exact hv k) (K4 (by omega)) (f1 31 1).toNat 0 0 1 (by show (f1 31 1).toNat = _; omega) rfl rfl)
              all_goals (first | omega | (simp [am_up] <;> omega))
            all_goals (first | omega | (simp [am_up] <;> omega))
          all_goals (first | omega | (simp [am_up] <;> omega))
        · refine ap_go kc_58_28 ?_
          refine ap_aload_n rfl ?_; refine ai_getI ow_58 rf_8_207 rfl rfl ?_; refine ai_iconst ?_
          refine ai_icne rfl rfl (fun hb15 => ?_) (fun hb15 => ?_) ?_
          · refine ap_go kc_58_39 ?_
            refine ap_iload_n rfl ?_
            refine ai_ifle rfl rfl (fun hb16 => ?_) (fun hb16 => ?_) ?_
            · refine ap_go kc_58_53 ?_
              refine ap_aload_n rfl ?_; refine ap_iload_n rfl ?_
              refine ai_ifne rfl rfl (fun hb17 => ?_) (fun hb17 => ?_) ?_
              · refine ap_go kc_58_62 ?_
                refine ap_aload_n rfl ?_; refine ai_getI ow_58 rf_8_207 rfl rfl ?_; refine ai_iconst ?_; refine ai_iadd ?_; refine ap_nil ?_
                refine ap_go kc_58_68 ?_
                refine ai_putI ow_58 rf_8_207 rfl rfl rfl ?_; refine ai_iconst ?_; refine ap_istore_n rfl ?_; refine ai_iconst ?_; refine ap_istore_n rfl ?_; refine ap_nil ?_
                first | (exfalso; omega) | exact am_weak (by first | exact am_le_0 | (repeat (first | exact am_le_0 | refine am_le_n ?_ | refine am_le_s ?_))) (lp_58 (f := (am_up f1 31 32 0)) (by simp [am_up]) hN (fun k => hv k) (K3 (by omega)) (f1 31 1).toNat 0 0 1 (by show (f1 31 1).toNat = _; omega) rfl rfl) | exact am_weak (by first | exact am_le_0 | (repeat (first | exact am_le_0 | refine am_le_n ?_ | refine am_le_s ?_))) (lp_58 (f := (am_up (am_up f1 51 (f1 31 32).toNat c) 31 32 (f1 31 32 + 1))) (by simp [am_up]; omega) hN (fun k => by simp only [am_up]; split; omega; split; omega; exact hv k) (K4 (by omega)) (f1 31 1).toNat 0 0 1 (by show (f1 31 1).toNat = _; omega) rfl rfl)
              · refine ap_go kc_58_58 ?_
                refine ai_iconst ?_; refine ap_goto rfl ?_
                refine ap_go kc_58_68 ?_
                refine ai_putI ow_58 rf_8_207 rfl rfl rfl ?_; refine ai_iconst ?_; refine ap_istore_n rfl ?_; refine ai_iconst ?_; refine ap_istore_n rfl ?_; refine ap_nil ?_
                first | (exfalso; omega) | exact am_weak (by first | exact am_le_0 | (repeat (first | exact am_le_0 | refine am_le_n ?_ | refine am_le_s ?_))) (lp_58 (f := (am_up f1 31 32 0)) (by simp [am_up]) hN (fun k => hv k) (K3 (by omega)) (f1 31 1).toNat 0 0 1 (by show (f1 31 1).toNat = _; omega) rfl rfl) | exact am_weak (by first | exact am_le_0 | (repeat (first | exact am_le_0 | refine am_le_n ?_ | refine am_le_s ?_))) (lp_58 (f := (am_up (am_up f1 51 (f1 31 32).toNat c) 31 32 (f1 31 32 + 1))) (by simp [am_up]; omega) hN (fun k => by simp only [am_up]; split; omega; split; omega; exact hv k) (K4 (by omega)) (f1 31 1).toNat 0 0 1 (by show (f1 31 1).toNat = _; omega) rfl rfl)
              all_goals (first | omega | (simp [am_up] <;> omega))
            · refine ap_go kc_58_43 ?_
              refine ap_aload_n rfl ?_; refine ap_getR ow_58 rf_8_79 rfl rfl rfl ?_; refine ap_aload_n rfl ?_; refine ai_getI ow_58 rf_8_207 rfl rfl ?_; refine ap_iload_n rfl ?_; refine ai_iastore (n := 3) rfl rfl (by decide) ?_ ?_; refine ap_nil ?_
              · refine ap_go kc_58_53 ?_
                refine ap_aload_n rfl ?_; refine ap_iload_n rfl ?_
                refine ai_ifne rfl rfl (fun hb18 => ?_) (fun hb18 => ?_) ?_
                · refine ap_go kc_58_62 ?_
                  refine ap_aload_n rfl ?_; refine ai_getI ow_58 rf_8_207 rfl rfl ?_; refine ai_iconst ?_; refine ai_iadd ?_; refine ap_nil ?_
                  refine ap_go kc_58_68 ?_
                  refine ai_putI ow_58 rf_8_207 rfl rfl rfl ?_; refine ai_iconst ?_; refine ap_istore_n rfl ?_; refine ai_iconst ?_; refine ap_istore_n rfl ?_; refine ap_nil ?_
                  first | (exfalso; omega) | exact am_weak (by first | exact am_le_0 | (repeat (first | exact am_le_0 | refine am_le_n ?_ | refine am_le_s ?_))) (lp_58 (f := (am_up f1 31 32 0)) (by simp [am_up]) hN (fun k => hv k) (K3 (by omega)) (f1 31 1).toNat 0 0 1 (by show (f1 31 1).toNat = _; omega) rfl rfl) | exact am_weak (by first | exact am_le_0 | (repeat (first | exact am_le_0 | refine am_le_n ?_ | refine am_le_s ?_))) (lp_58 (f := (am_up (am_up f1 51 (f1 31 32).toNat c) 31 32 (f1 31 32 + 1))) (by simp [am_up]; omega) hN (fun k => by simp only [am_up]; split; omega; split; omega; exact hv k) (K4 (by omega)) (f1 31 1).toNat 0 0 1 (by show (f1 31 1).toNat = _; omega) rfl rfl)
                · refine ap_go kc_58_58 ?_
                  refine ai_iconst ?_; refine ap_goto rfl ?_
                  refine ap_go kc_58_68 ?_
                  refine ai_putI ow_58 rf_8_207 rfl rfl rfl ?_; refine ai_iconst ?_; refine ap_istore_n rfl ?_; refine ai_iconst ?_; refine ap_istore_n rfl ?_; refine ap_nil ?_
                  first | (exfalso; omega) | exact am_weak (by first | exact am_le_0 | (repeat (first | exact am_le_0 | refine am_le_n ?_ | refine am_le_s ?_))) (lp_58 (f := (am_up f1 31 32 0)) (by simp [am_up]) hN (fun k => hv k) (K3 (by omega)) (f1 31 1).toNat 0 0 1 (by show (f1 31 1).toNat = _; omega) rfl rfl) | exact am_weak (by first | exact am_le_0 | (repeat (first | exact am_le_0 | refine am_le_n ?_ | refine am_le_s ?_))) (lp_58 (f := (am_up (am_up f1 51 (f1 31 32).toNat c) 31 32 (f1 31 32 + 1))) (by simp [am_up]; omega) hN (fun k => by simp only [am_up]; split; omega; split; omega; exact hv k) (K4 (by omega)) (f1 31 1).toNat 0 0 1 (by show (f1 31 1).toNat = _; omega) rfl rfl)
                all_goals (first | omega | (simp [am_up] <;> omega))
              all_goals (first | omega | (simp [am_up] <;> omega))
            all_goals (first | omega | (simp [am_up] <;> omega))
          · refine ap_go kc_58_36 ?_
            refine ai_bipush (by decide) ?_; refine ap_iret rfl ?_
            first | exact K1  (by omega) | exact K2  (by omega) | exact K3  (by omega) | exact K4  (by omega)
          all_goals (first | omega | (simp [am_up] <;> omega))
        all_goals (first | omega | (simp [am_up] <;> omega))
      · refine ap_go kc_58_21 ?_
        refine ai_bipush (by decide) ?_; refine ap_iret rfl ?_
        first | exact K1  (by omega) | exact K2  (by omega) | exact K3  (by omega) | exact K4  (by omega)
      all_goals (first | omega | (simp [am_up] <;> omega))
    all_goals (first | omega | (simp [am_up] <;> omega))
  all_goals (first | omega | (simp [am_up] <;> omega))
end
