-- ===== PART A: goes FIRST, ahead of the names: the tables' words, and 'selects' of the private methods out of them =====
/-- a private method of a class that the tables say can be made, by its rows of tables_1 -/
def lw_okq (q : MethodName × Nat) : Prop := (q.1.cls ≠ "java/lang/invoke/MethodHandle" ∧ q.1.cls ≠ "java/lang/invoke/VarHandle") ∧ Cond.instantiable q.1.cls q.2 ∈ tables_1 ∧ Cond.privateMethod q.1 ∈ tables_1 ∧ Cond.instanceMethod q.1 ∈ tables_1
theorem lw_p0 : lw_okq (⟨"CoarserOrders$Arcs", "numberArcs", "()V"⟩, 12) := ⟨⟨by decide +kernel, by decide +kernel⟩, List.mem_of_getElem? (i := 218) (by decide +kernel), List.mem_of_getElem? (i := 224) (by decide +kernel), List.mem_of_getElem? (i := 225) (by decide +kernel)⟩
theorem lw_p1 : lw_okq (⟨"CoarserOrders$Arcs", "relateArcs", "()V"⟩, 12) := ⟨⟨by decide +kernel, by decide +kernel⟩, List.mem_of_getElem? (i := 218) (by decide +kernel), List.mem_of_getElem? (i := 234) (by decide +kernel), List.mem_of_getElem? (i := 235) (by decide +kernel)⟩
theorem lw_p2 : lw_okq (⟨"CoarserOrders$Arcs", "lastsIn", "(II)Z"⟩, 12) := ⟨⟨by decide +kernel, by decide +kernel⟩, List.mem_of_getElem? (i := 218) (by decide +kernel), List.mem_of_getElem? (i := 238) (by decide +kernel), List.mem_of_getElem? (i := 239) (by decide +kernel)⟩
theorem lw_p3 : lw_okq (⟨"CoarserOrders$Rows", "numberAt", "(I)I"⟩, 10) := ⟨⟨by decide +kernel, by decide +kernel⟩, List.mem_of_getElem? (i := 210) (by decide +kernel), List.mem_of_getElem? (i := 305) (by decide +kernel), List.mem_of_getElem? (i := 306) (by decide +kernel)⟩
theorem lw_p4 : lw_okq (⟨"CoarserOrders$Rows", "freeValue", "(II)I"⟩, 10) := ⟨⟨by decide +kernel, by decide +kernel⟩, List.mem_of_getElem? (i := 210) (by decide +kernel), List.mem_of_getElem? (i := 309) (by decide +kernel), List.mem_of_getElem? (i := 310) (by decide +kernel)⟩
theorem lw_p5 : lw_okq (⟨"CoarserOrders$Rows", "fillSwapped", "(I[I)V"⟩, 10) := ⟨⟨by decide +kernel, by decide +kernel⟩, List.mem_of_getElem? (i := 210) (by decide +kernel), List.mem_of_getElem? (i := 319) (by decide +kernel), List.mem_of_getElem? (i := 320) (by decide +kernel)⟩
theorem lw_p6 : lw_okq (⟨"CoarserOrders$Rows", "fillGaps", "(I[I)V"⟩, 10) := ⟨⟨by decide +kernel, by decide +kernel⟩, List.mem_of_getElem? (i := 210) (by decide +kernel), List.mem_of_getElem? (i := 323) (by decide +kernel), List.mem_of_getElem? (i := 324) (by decide +kernel)⟩
theorem lw_p7 : lw_okq (⟨"CoarserOrders$Rows", "arcIn", "([II)I"⟩, 10) := ⟨⟨by decide +kernel, by decide +kernel⟩, List.mem_of_getElem? (i := 210) (by decide +kernel), List.mem_of_getElem? (i := 327) (by decide +kernel), List.mem_of_getElem? (i := 328) (by decide +kernel)⟩
theorem lw_p8 : lw_okq (⟨"CoarserOrders", "resize", "(I)V"⟩, 18) := ⟨⟨by decide +kernel, by decide +kernel⟩, List.mem_of_getElem? (i := 24) (by decide +kernel), List.mem_of_getElem? (i := 454) (by decide +kernel), List.mem_of_getElem? (i := 455) (by decide +kernel)⟩
theorem lw_p9 : lw_okq (⟨"CoarserOrders$Rows", "placeOf", "(II)I"⟩, 10) := ⟨⟨by decide +kernel, by decide +kernel⟩, List.mem_of_getElem? (i := 210) (by decide +kernel), List.mem_of_getElem? (i := 505) (by decide +kernel), List.mem_of_getElem? (i := 506) (by decide +kernel)⟩
theorem lw_p10 : lw_okq (⟨"CoarserOrders$Rows", "passed", "(III)I"⟩, 10) := ⟨⟨by decide +kernel, by decide +kernel⟩, List.mem_of_getElem? (i := 210) (by decide +kernel), List.mem_of_getElem? (i := 512) (by decide +kernel), List.mem_of_getElem? (i := 513) (by decide +kernel)⟩
theorem lw_p11 : lw_okq (⟨"CoarserOrders$Rows", "isDrop", "(II)Z"⟩, 10) := ⟨⟨by decide +kernel, by decide +kernel⟩, List.mem_of_getElem? (i := 210) (by decide +kernel), List.mem_of_getElem? (i := 516) (by decide +kernel), List.mem_of_getElem? (i := 517) (by decide +kernel)⟩
theorem lw_p12 : lw_okq (⟨"CoarserOrders", "isArc", "(I)Z"⟩, 18) := ⟨⟨by decide +kernel, by decide +kernel⟩, List.mem_of_getElem? (i := 24) (by decide +kernel), List.mem_of_getElem? (i := 528) (by decide +kernel), List.mem_of_getElem? (i := 529) (by decide +kernel)⟩
theorem lw_p13 : lw_okq (⟨"CoarserOrders$Arcs", "withBetween", "(III)I"⟩, 12) := ⟨⟨by decide +kernel, by decide +kernel⟩, List.mem_of_getElem? (i := 218) (by decide +kernel), List.mem_of_getElem? (i := 537) (by decide +kernel), List.mem_of_getElem? (i := 538) (by decide +kernel)⟩
theorem lw_p14 : lw_okq (⟨"CoarserOrders", "come", "(JI)I"⟩, 18) := ⟨⟨by decide +kernel, by decide +kernel⟩, List.mem_of_getElem? (i := 24) (by decide +kernel), List.mem_of_getElem? (i := 578) (by decide +kernel), List.mem_of_getElem? (i := 579) (by decide +kernel)⟩
theorem lw_p15 : lw_okq (⟨"CoarserOrders", "takenBy", "(I)J"⟩, 18) := ⟨⟨by decide +kernel, by decide +kernel⟩, List.mem_of_getElem? (i := 24) (by decide +kernel), List.mem_of_getElem? (i := 602) (by decide +kernel), List.mem_of_getElem? (i := 603) (by decide +kernel)⟩
def lw_privs_1 : List (MethodName × Nat) := [(⟨"CoarserOrders$Arcs", "numberArcs", "()V"⟩, 12), (⟨"CoarserOrders$Arcs", "relateArcs", "()V"⟩, 12), (⟨"CoarserOrders$Arcs", "lastsIn", "(II)Z"⟩, 12), (⟨"CoarserOrders$Rows", "numberAt", "(I)I"⟩, 10), (⟨"CoarserOrders$Rows", "freeValue", "(II)I"⟩, 10), (⟨"CoarserOrders$Rows", "fillSwapped", "(I[I)V"⟩, 10), (⟨"CoarserOrders$Rows", "fillGaps", "(I[I)V"⟩, 10), (⟨"CoarserOrders$Rows", "arcIn", "([II)I"⟩, 10), (⟨"CoarserOrders", "resize", "(I)V"⟩, 18), (⟨"CoarserOrders$Rows", "placeOf", "(II)I"⟩, 10), (⟨"CoarserOrders$Rows", "passed", "(III)I"⟩, 10), (⟨"CoarserOrders$Rows", "isDrop", "(II)Z"⟩, 10), (⟨"CoarserOrders", "isArc", "(I)Z"⟩, 18), (⟨"CoarserOrders$Arcs", "withBetween", "(III)I"⟩, 12), (⟨"CoarserOrders", "come", "(JI)I"⟩, 18), (⟨"CoarserOrders", "takenBy", "(I)J"⟩, 18)]
theorem lw_r1 : ∀ q ∈ lw_privs_1, lw_okq q := List.forall_mem_cons.mpr ⟨lw_p0, List.forall_mem_cons.mpr ⟨lw_p1, List.forall_mem_cons.mpr ⟨lw_p2, List.forall_mem_cons.mpr ⟨lw_p3, List.forall_mem_cons.mpr ⟨lw_p4, List.forall_mem_cons.mpr ⟨lw_p5, List.forall_mem_cons.mpr ⟨lw_p6, List.forall_mem_cons.mpr ⟨lw_p7, List.forall_mem_cons.mpr ⟨lw_p8, List.forall_mem_cons.mpr ⟨lw_p9, List.forall_mem_cons.mpr ⟨lw_p10, List.forall_mem_cons.mpr ⟨lw_p11, List.forall_mem_cons.mpr ⟨lw_p12, List.forall_mem_cons.mpr ⟨lw_p13, List.forall_mem_cons.mpr ⟨lw_p14, List.forall_mem_cons.mpr ⟨lw_p15, fun _ h => absurd h List.not_mem_nil⟩⟩⟩⟩⟩⟩⟩⟩⟩⟩⟩⟩⟩⟩⟩⟩
theorem lw_p16 : lw_okq (⟨"CoarserOrders$Tape", "splitIntoWords", "()V"⟩, 8) := ⟨⟨by decide +kernel, by decide +kernel⟩, List.mem_of_getElem? (i := 54) (by decide +kernel), List.mem_of_getElem? (i := 640) (by decide +kernel), List.mem_of_getElem? (i := 641) (by decide +kernel)⟩
theorem lw_p17 : lw_okq (⟨"CoarserOrders$Tape", "endOfWord", "(I)I"⟩, 8) := ⟨⟨by decide +kernel, by decide +kernel⟩, List.mem_of_getElem? (i := 54) (by decide +kernel), List.mem_of_getElem? (i := 644) (by decide +kernel), List.mem_of_getElem? (i := 645) (by decide +kernel)⟩
theorem lw_p18 : lw_okq (⟨"CoarserOrders$Tape", "wordAt", "(II)I"⟩, 8) := ⟨⟨by decide +kernel, by decide +kernel⟩, List.mem_of_getElem? (i := 54) (by decide +kernel), List.mem_of_getElem? (i := 654) (by decide +kernel), List.mem_of_getElem? (i := 655) (by decide +kernel)⟩
theorem lw_p19 : lw_okq (⟨"CoarserOrders$Tape", "nameAt", "(II)I"⟩, 8) := ⟨⟨by decide +kernel, by decide +kernel⟩, List.mem_of_getElem? (i := 54) (by decide +kernel), List.mem_of_getElem? (i := 658) (by decide +kernel), List.mem_of_getElem? (i := 659) (by decide +kernel)⟩
theorem lw_p20 : lw_okq (⟨"CoarserOrders$Tape", "isName", "(Ljava/lang/String;II)Z"⟩, 8) := ⟨⟨by decide +kernel, by decide +kernel⟩, List.mem_of_getElem? (i := 54) (by decide +kernel), List.mem_of_getElem? (i := 663) (by decide +kernel), List.mem_of_getElem? (i := 664) (by decide +kernel)⟩
theorem lw_p21 : lw_okq (⟨"CoarserOrders$Tape", "worthOf", "(II)I"⟩, 8) := ⟨⟨by decide +kernel, by decide +kernel⟩, List.mem_of_getElem? (i := 54) (by decide +kernel), List.mem_of_getElem? (i := 722) (by decide +kernel), List.mem_of_getElem? (i := 723) (by decide +kernel)⟩
theorem lw_p22 : lw_okq (⟨"CoarserOrders$Tape", "anyOf", "(I)J"⟩, 8) := ⟨⟨by decide +kernel, by decide +kernel⟩, List.mem_of_getElem? (i := 54) (by decide +kernel), List.mem_of_getElem? (i := 726) (by decide +kernel), List.mem_of_getElem? (i := 727) (by decide +kernel)⟩
theorem lw_p23 : lw_okq (⟨"CoarserOrders$Tape", "allOf", "(I)J"⟩, 8) := ⟨⟨by decide +kernel, by decide +kernel⟩, List.mem_of_getElem? (i := 54) (by decide +kernel), List.mem_of_getElem? (i := 730) (by decide +kernel), List.mem_of_getElem? (i := 731) (by decide +kernel)⟩
theorem lw_p24 : lw_okq (⟨"CoarserOrders$Tape", "oneOf", "(I)J"⟩, 8) := ⟨⟨by decide +kernel, by decide +kernel⟩, List.mem_of_getElem? (i := 54) (by decide +kernel), List.mem_of_getElem? (i := 734) (by decide +kernel), List.mem_of_getElem? (i := 735) (by decide +kernel)⟩
theorem lw_p25 : lw_okq (⟨"CoarserOrders$Tape", "pass", "(Z)V"⟩, 8) := ⟨⟨by decide +kernel, by decide +kernel⟩, List.mem_of_getElem? (i := 54) (by decide +kernel), List.mem_of_getElem? (i := 738) (by decide +kernel), List.mem_of_getElem? (i := 739) (by decide +kernel)⟩
theorem lw_p26 : lw_okq (⟨"CoarserOrders$Tape", "compared", "()J"⟩, 8) := ⟨⟨by decide +kernel, by decide +kernel⟩, List.mem_of_getElem? (i := 54) (by decide +kernel), List.mem_of_getElem? (i := 742) (by decide +kernel), List.mem_of_getElem? (i := 743) (by decide +kernel)⟩
theorem lw_p27 : lw_okq (⟨"CoarserOrders$Tape", "factOf", "(II)I"⟩, 8) := ⟨⟨by decide +kernel, by decide +kernel⟩, List.mem_of_getElem? (i := 54) (by decide +kernel), List.mem_of_getElem? (i := 749) (by decide +kernel), List.mem_of_getElem? (i := 750) (by decide +kernel)⟩
theorem lw_p28 : lw_okq (⟨"CoarserOrders$Walks", "insertNear", "(II)V"⟩, 3) := ⟨⟨by decide +kernel, by decide +kernel⟩, List.mem_of_getElem? (i := 87) (by decide +kernel), List.mem_of_getElem? (i := 810) (by decide +kernel), List.mem_of_getElem? (i := 811) (by decide +kernel)⟩
theorem lw_p29 : lw_okq (⟨"CoarserOrders$Walks", "reach", "(III)I"⟩, 3) := ⟨⟨by decide +kernel, by decide +kernel⟩, List.mem_of_getElem? (i := 87) (by decide +kernel), List.mem_of_getElem? (i := 830) (by decide +kernel), List.mem_of_getElem? (i := 831) (by decide +kernel)⟩
theorem lw_p30 : lw_okq (⟨"CoarserOrders$Walks", "stepsUpTo", "(IZ)I"⟩, 3) := ⟨⟨by decide +kernel, by decide +kernel⟩, List.mem_of_getElem? (i := 87) (by decide +kernel), List.mem_of_getElem? (i := 843) (by decide +kernel), List.mem_of_getElem? (i := 844) (by decide +kernel)⟩
theorem lw_p31 : lw_okq (⟨"CoarserOrders$Listing", "nextBehind", "(LCoarserOrders$Rows;IJ)I"⟩, 5) := ⟨⟨by decide +kernel, by decide +kernel⟩, List.mem_of_getElem? (i := 104) (by decide +kernel), List.mem_of_getElem? (i := 856) (by decide +kernel), List.mem_of_getElem? (i := 857) (by decide +kernel)⟩
def lw_privs_2 : List (MethodName × Nat) := [(⟨"CoarserOrders$Tape", "splitIntoWords", "()V"⟩, 8), (⟨"CoarserOrders$Tape", "endOfWord", "(I)I"⟩, 8), (⟨"CoarserOrders$Tape", "wordAt", "(II)I"⟩, 8), (⟨"CoarserOrders$Tape", "nameAt", "(II)I"⟩, 8), (⟨"CoarserOrders$Tape", "isName", "(Ljava/lang/String;II)Z"⟩, 8), (⟨"CoarserOrders$Tape", "worthOf", "(II)I"⟩, 8), (⟨"CoarserOrders$Tape", "anyOf", "(I)J"⟩, 8), (⟨"CoarserOrders$Tape", "allOf", "(I)J"⟩, 8), (⟨"CoarserOrders$Tape", "oneOf", "(I)J"⟩, 8), (⟨"CoarserOrders$Tape", "pass", "(Z)V"⟩, 8), (⟨"CoarserOrders$Tape", "compared", "()J"⟩, 8), (⟨"CoarserOrders$Tape", "factOf", "(II)I"⟩, 8), (⟨"CoarserOrders$Walks", "insertNear", "(II)V"⟩, 3), (⟨"CoarserOrders$Walks", "reach", "(III)I"⟩, 3), (⟨"CoarserOrders$Walks", "stepsUpTo", "(IZ)I"⟩, 3), (⟨"CoarserOrders$Listing", "nextBehind", "(LCoarserOrders$Rows;IJ)I"⟩, 5)]
theorem lw_r2 : ∀ q ∈ lw_privs_2, lw_okq q := List.forall_mem_cons.mpr ⟨lw_p16, List.forall_mem_cons.mpr ⟨lw_p17, List.forall_mem_cons.mpr ⟨lw_p18, List.forall_mem_cons.mpr ⟨lw_p19, List.forall_mem_cons.mpr ⟨lw_p20, List.forall_mem_cons.mpr ⟨lw_p21, List.forall_mem_cons.mpr ⟨lw_p22, List.forall_mem_cons.mpr ⟨lw_p23, List.forall_mem_cons.mpr ⟨lw_p24, List.forall_mem_cons.mpr ⟨lw_p25, List.forall_mem_cons.mpr ⟨lw_p26, List.forall_mem_cons.mpr ⟨lw_p27, List.forall_mem_cons.mpr ⟨lw_p28, List.forall_mem_cons.mpr ⟨lw_p29, List.forall_mem_cons.mpr ⟨lw_p30, List.forall_mem_cons.mpr ⟨lw_p31, fun _ h => absurd h List.not_mem_nil⟩⟩⟩⟩⟩⟩⟩⟩⟩⟩⟩⟩⟩⟩⟩⟩
theorem lw_p32 : lw_okq (⟨"CoarserOrders", "fitsThrees", "(IJ)Z"⟩, 18) := ⟨⟨by decide +kernel, by decide +kernel⟩, List.mem_of_getElem? (i := 24) (by decide +kernel), List.mem_of_getElem? (i := 895) (by decide +kernel), List.mem_of_getElem? (i := 896) (by decide +kernel)⟩
theorem lw_p33 : lw_okq (⟨"CoarserOrders", "drawRow", "()I"⟩, 18) := ⟨⟨by decide +kernel, by decide +kernel⟩, List.mem_of_getElem? (i := 24) (by decide +kernel), List.mem_of_getElem? (i := 907) (by decide +kernel), List.mem_of_getElem? (i := 908) (by decide +kernel)⟩
theorem lw_p34 : lw_okq (⟨"CoarserOrders", "heldOn", "(I)I"⟩, 18) := ⟨⟨by decide +kernel, by decide +kernel⟩, List.mem_of_getElem? (i := 24) (by decide +kernel), List.mem_of_getElem? (i := 1007) (by decide +kernel), List.mem_of_getElem? (i := 1008) (by decide +kernel)⟩
theorem lw_p35 : lw_okq (⟨"CoarserOrders$Acts", "own", "(III)I"⟩, 6) := ⟨⟨by decide +kernel, by decide +kernel⟩, List.mem_of_getElem? (i := 184) (by decide +kernel), List.mem_of_getElem? (i := 1028) (by decide +kernel), List.mem_of_getElem? (i := 1029) (by decide +kernel)⟩
theorem lw_p36 : lw_okq (⟨"CoarserOrders$Acts", "run", "(III)I"⟩, 6) := ⟨⟨by decide +kernel, by decide +kernel⟩, List.mem_of_getElem? (i := 184) (by decide +kernel), List.mem_of_getElem? (i := 1038) (by decide +kernel), List.mem_of_getElem? (i := 1039) (by decide +kernel)⟩
theorem lw_p37 : lw_okq (⟨"CoarserOrders$Acts", "partedBy", "(II)I"⟩, 6) := ⟨⟨by decide +kernel, by decide +kernel⟩, List.mem_of_getElem? (i := 184) (by decide +kernel), List.mem_of_getElem? (i := 1042) (by decide +kernel), List.mem_of_getElem? (i := 1043) (by decide +kernel)⟩
theorem lw_p38 : lw_okq (⟨"CoarserOrders$Acts", "above", "(IIII)I"⟩, 6) := ⟨⟨by decide +kernel, by decide +kernel⟩, List.mem_of_getElem? (i := 184) (by decide +kernel), List.mem_of_getElem? (i := 1046) (by decide +kernel), List.mem_of_getElem? (i := 1047) (by decide +kernel)⟩
theorem lw_p39 : lw_okq (⟨"CoarserOrdersModel", "tellsArcs", "()V"⟩, 50) := ⟨⟨by decide +kernel, by decide +kernel⟩, List.mem_of_getElem? (i := 1080) (by decide +kernel), List.mem_of_getElem? (i := 1088) (by decide +kernel), List.mem_of_getElem? (i := 1089) (by decide +kernel)⟩
theorem lw_p40 : lw_okq (⟨"CoarserOrdersModel", "isForcing", "(II)Z"⟩, 50) := ⟨⟨by decide +kernel, by decide +kernel⟩, List.mem_of_getElem? (i := 1080) (by decide +kernel), List.mem_of_getElem? (i := 1092) (by decide +kernel), List.mem_of_getElem? (i := 1093) (by decide +kernel)⟩
theorem lw_p41 : lw_okq (⟨"CoarserOrdersModel", "isLeft", "(II)Z"⟩, 50) := ⟨⟨by decide +kernel, by decide +kernel⟩, List.mem_of_getElem? (i := 1080) (by decide +kernel), List.mem_of_getElem? (i := 1096) (by decide +kernel), List.mem_of_getElem? (i := 1097) (by decide +kernel)⟩
theorem lw_p42 : lw_okq (⟨"CoarserOrdersModel", "areRows", "(II)Z"⟩, 50) := ⟨⟨by decide +kernel, by decide +kernel⟩, List.mem_of_getElem? (i := 1080) (by decide +kernel), List.mem_of_getElem? (i := 1267) (by decide +kernel), List.mem_of_getElem? (i := 1268) (by decide +kernel)⟩
theorem lw_p43 : lw_okq (⟨"CoarserOrdersModel", "isRow", "(I)Z"⟩, 50) := ⟨⟨by decide +kernel, by decide +kernel⟩, List.mem_of_getElem? (i := 1080) (by decide +kernel), List.mem_of_getElem? (i := 1271) (by decide +kernel), List.mem_of_getElem? (i := 1272) (by decide +kernel)⟩
theorem lw_p44 : lw_okq (⟨"CoarserOrdersModel", "digit", "(II)I"⟩, 50) := ⟨⟨by decide +kernel, by decide +kernel⟩, List.mem_of_getElem? (i := 1080) (by decide +kernel), List.mem_of_getElem? (i := 1275) (by decide +kernel), List.mem_of_getElem? (i := 1276) (by decide +kernel)⟩
theorem lw_p45 : lw_okq (⟨"CoarserOrdersModel", "isBelow", "(II)Z"⟩, 50) := ⟨⟨by decide +kernel, by decide +kernel⟩, List.mem_of_getElem? (i := 1080) (by decide +kernel), List.mem_of_getElem? (i := 1279) (by decide +kernel), List.mem_of_getElem? (i := 1280) (by decide +kernel)⟩
theorem lw_p46 : lw_okq (⟨"CoarserOrdersModel", "swapped", "(I)I"⟩, 50) := ⟨⟨by decide +kernel, by decide +kernel⟩, List.mem_of_getElem? (i := 1080) (by decide +kernel), List.mem_of_getElem? (i := 1283) (by decide +kernel), List.mem_of_getElem? (i := 1284) (by decide +kernel)⟩
theorem lw_p47 : lw_okq (⟨"CoarserOrdersModel", "meetOf", "(II)I"⟩, 50) := ⟨⟨by decide +kernel, by decide +kernel⟩, List.mem_of_getElem? (i := 1080) (by decide +kernel), List.mem_of_getElem? (i := 1291) (by decide +kernel), List.mem_of_getElem? (i := 1292) (by decide +kernel)⟩
def lw_privs_3 : List (MethodName × Nat) := [(⟨"CoarserOrders", "fitsThrees", "(IJ)Z"⟩, 18), (⟨"CoarserOrders", "drawRow", "()I"⟩, 18), (⟨"CoarserOrders", "heldOn", "(I)I"⟩, 18), (⟨"CoarserOrders$Acts", "own", "(III)I"⟩, 6), (⟨"CoarserOrders$Acts", "run", "(III)I"⟩, 6), (⟨"CoarserOrders$Acts", "partedBy", "(II)I"⟩, 6), (⟨"CoarserOrders$Acts", "above", "(IIII)I"⟩, 6), (⟨"CoarserOrdersModel", "tellsArcs", "()V"⟩, 50), (⟨"CoarserOrdersModel", "isForcing", "(II)Z"⟩, 50), (⟨"CoarserOrdersModel", "isLeft", "(II)Z"⟩, 50), (⟨"CoarserOrdersModel", "areRows", "(II)Z"⟩, 50), (⟨"CoarserOrdersModel", "isRow", "(I)Z"⟩, 50), (⟨"CoarserOrdersModel", "digit", "(II)I"⟩, 50), (⟨"CoarserOrdersModel", "isBelow", "(II)Z"⟩, 50), (⟨"CoarserOrdersModel", "swapped", "(I)I"⟩, 50), (⟨"CoarserOrdersModel", "meetOf", "(II)I"⟩, 50)]
theorem lw_r3 : ∀ q ∈ lw_privs_3, lw_okq q := List.forall_mem_cons.mpr ⟨lw_p32, List.forall_mem_cons.mpr ⟨lw_p33, List.forall_mem_cons.mpr ⟨lw_p34, List.forall_mem_cons.mpr ⟨lw_p35, List.forall_mem_cons.mpr ⟨lw_p36, List.forall_mem_cons.mpr ⟨lw_p37, List.forall_mem_cons.mpr ⟨lw_p38, List.forall_mem_cons.mpr ⟨lw_p39, List.forall_mem_cons.mpr ⟨lw_p40, List.forall_mem_cons.mpr ⟨lw_p41, List.forall_mem_cons.mpr ⟨lw_p42, List.forall_mem_cons.mpr ⟨lw_p43, List.forall_mem_cons.mpr ⟨lw_p44, List.forall_mem_cons.mpr ⟨lw_p45, List.forall_mem_cons.mpr ⟨lw_p46, List.forall_mem_cons.mpr ⟨lw_p47, fun _ h => absurd h List.not_mem_nil⟩⟩⟩⟩⟩⟩⟩⟩⟩⟩⟩⟩⟩⟩⟩⟩
theorem lw_p48 : lw_okq (⟨"CoarserOrdersModel", "rowBy", "(I)I"⟩, 50) := ⟨⟨by decide +kernel, by decide +kernel⟩, List.mem_of_getElem? (i := 1080) (by decide +kernel), List.mem_of_getElem? (i := 1295) (by decide +kernel), List.mem_of_getElem? (i := 1296) (by decide +kernel)⟩
theorem lw_p49 : lw_okq (⟨"CoarserOrdersModel", "joinOf", "(II)I"⟩, 50) := ⟨⟨by decide +kernel, by decide +kernel⟩, List.mem_of_getElem? (i := 1080) (by decide +kernel), List.mem_of_getElem? (i := 1306) (by decide +kernel), List.mem_of_getElem? (i := 1307) (by decide +kernel)⟩
theorem lw_p50 : lw_okq (⟨"CoarserOrdersModel", "drops", "(I)I"⟩, 50) := ⟨⟨by decide +kernel, by decide +kernel⟩, List.mem_of_getElem? (i := 1080) (by decide +kernel), List.mem_of_getElem? (i := 1315) (by decide +kernel), List.mem_of_getElem? (i := 1316) (by decide +kernel)⟩
theorem lw_p51 : lw_okq (⟨"CoarserOrdersModel", "isDrop", "(II)Z"⟩, 50) := ⟨⟨by decide +kernel, by decide +kernel⟩, List.mem_of_getElem? (i := 1080) (by decide +kernel), List.mem_of_getElem? (i := 1319) (by decide +kernel), List.mem_of_getElem? (i := 1320) (by decide +kernel)⟩
theorem lw_p52 : lw_okq (⟨"CoarserOrdersModel", "rank", "(I)I"⟩, 50) := ⟨⟨by decide +kernel, by decide +kernel⟩, List.mem_of_getElem? (i := 1080) (by decide +kernel), List.mem_of_getElem? (i := 1323) (by decide +kernel), List.mem_of_getElem? (i := 1324) (by decide +kernel)⟩
theorem lw_p53 : lw_okq (⟨"CoarserOrdersModel", "turned", "(I)I"⟩, 50) := ⟨⟨by decide +kernel, by decide +kernel⟩, List.mem_of_getElem? (i := 1080) (by decide +kernel), List.mem_of_getElem? (i := 1327) (by decide +kernel), List.mem_of_getElem? (i := 1328) (by decide +kernel)⟩
theorem lw_p54 : lw_okq (⟨"CoarserOrdersModel", "jumped", "(III)I"⟩, 50) := ⟨⟨by decide +kernel, by decide +kernel⟩, List.mem_of_getElem? (i := 1080) (by decide +kernel), List.mem_of_getElem? (i := 1339) (by decide +kernel), List.mem_of_getElem? (i := 1340) (by decide +kernel)⟩
theorem lw_p55 : lw_okq (⟨"CoarserOrdersModel", "placeOf", "(II)I"⟩, 50) := ⟨⟨by decide +kernel, by decide +kernel⟩, List.mem_of_getElem? (i := 1080) (by decide +kernel), List.mem_of_getElem? (i := 1343) (by decide +kernel), List.mem_of_getElem? (i := 1344) (by decide +kernel)⟩
theorem lw_p56 : lw_okq (⟨"CoarserOrdersModel", "swapAt", "(II)I"⟩, 50) := ⟨⟨by decide +kernel, by decide +kernel⟩, List.mem_of_getElem? (i := 1080) (by decide +kernel), List.mem_of_getElem? (i := 1347) (by decide +kernel), List.mem_of_getElem? (i := 1348) (by decide +kernel)⟩
theorem lw_p57 : lw_okq (⟨"CoarserOrdersModel", "arcAt", "(II)I"⟩, 50) := ⟨⟨by decide +kernel, by decide +kernel⟩, List.mem_of_getElem? (i := 1080) (by decide +kernel), List.mem_of_getElem? (i := 1355) (by decide +kernel), List.mem_of_getElem? (i := 1356) (by decide +kernel)⟩
theorem lw_p58 : lw_okq (⟨"CoarserOrdersModel", "isArc", "(I)Z"⟩, 50) := ⟨⟨by decide +kernel, by decide +kernel⟩, List.mem_of_getElem? (i := 1080) (by decide +kernel), List.mem_of_getElem? (i := 1363) (by decide +kernel), List.mem_of_getElem? (i := 1364) (by decide +kernel)⟩
theorem lw_p59 : lw_okq (⟨"CoarserOrdersModel", "forcers", "(I)J"⟩, 50) := ⟨⟨by decide +kernel, by decide +kernel⟩, List.mem_of_getElem? (i := 1080) (by decide +kernel), List.mem_of_getElem? (i := 1367) (by decide +kernel), List.mem_of_getElem? (i := 1368) (by decide +kernel)⟩
theorem lw_p60 : lw_okq (⟨"CoarserOrdersModel", "leastWith", "(I)I"⟩, 50) := ⟨⟨by decide +kernel, by decide +kernel⟩, List.mem_of_getElem? (i := 1080) (by decide +kernel), List.mem_of_getElem? (i := 1371) (by decide +kernel), List.mem_of_getElem? (i := 1372) (by decide +kernel)⟩
theorem lw_p61 : lw_okq (⟨"CoarserOrdersModel", "diagramOf", "(I)J"⟩, 50) := ⟨⟨by decide +kernel, by decide +kernel⟩, List.mem_of_getElem? (i := 1080) (by decide +kernel), List.mem_of_getElem? (i := 1375) (by decide +kernel), List.mem_of_getElem? (i := 1376) (by decide +kernel)⟩
theorem lw_p62 : lw_okq (⟨"CoarserOrdersModel", "isMaker", "(I)Z"⟩, 50) := ⟨⟨by decide +kernel, by decide +kernel⟩, List.mem_of_getElem? (i := 1080) (by decide +kernel), List.mem_of_getElem? (i := 1418) (by decide +kernel), List.mem_of_getElem? (i := 1419) (by decide +kernel)⟩
theorem lw_p63 : lw_okq (⟨"CoarserOrdersModel", "takenBy", "(II)J"⟩, 50) := ⟨⟨by decide +kernel, by decide +kernel⟩, List.mem_of_getElem? (i := 1080) (by decide +kernel), List.mem_of_getElem? (i := 1423) (by decide +kernel), List.mem_of_getElem? (i := 1424) (by decide +kernel)⟩
def lw_privs_4 : List (MethodName × Nat) := [(⟨"CoarserOrdersModel", "rowBy", "(I)I"⟩, 50), (⟨"CoarserOrdersModel", "joinOf", "(II)I"⟩, 50), (⟨"CoarserOrdersModel", "drops", "(I)I"⟩, 50), (⟨"CoarserOrdersModel", "isDrop", "(II)Z"⟩, 50), (⟨"CoarserOrdersModel", "rank", "(I)I"⟩, 50), (⟨"CoarserOrdersModel", "turned", "(I)I"⟩, 50), (⟨"CoarserOrdersModel", "jumped", "(III)I"⟩, 50), (⟨"CoarserOrdersModel", "placeOf", "(II)I"⟩, 50), (⟨"CoarserOrdersModel", "swapAt", "(II)I"⟩, 50), (⟨"CoarserOrdersModel", "arcAt", "(II)I"⟩, 50), (⟨"CoarserOrdersModel", "isArc", "(I)Z"⟩, 50), (⟨"CoarserOrdersModel", "forcers", "(I)J"⟩, 50), (⟨"CoarserOrdersModel", "leastWith", "(I)I"⟩, 50), (⟨"CoarserOrdersModel", "diagramOf", "(I)J"⟩, 50), (⟨"CoarserOrdersModel", "isMaker", "(I)Z"⟩, 50), (⟨"CoarserOrdersModel", "takenBy", "(II)J"⟩, 50)]
theorem lw_r4 : ∀ q ∈ lw_privs_4, lw_okq q := List.forall_mem_cons.mpr ⟨lw_p48, List.forall_mem_cons.mpr ⟨lw_p49, List.forall_mem_cons.mpr ⟨lw_p50, List.forall_mem_cons.mpr ⟨lw_p51, List.forall_mem_cons.mpr ⟨lw_p52, List.forall_mem_cons.mpr ⟨lw_p53, List.forall_mem_cons.mpr ⟨lw_p54, List.forall_mem_cons.mpr ⟨lw_p55, List.forall_mem_cons.mpr ⟨lw_p56, List.forall_mem_cons.mpr ⟨lw_p57, List.forall_mem_cons.mpr ⟨lw_p58, List.forall_mem_cons.mpr ⟨lw_p59, List.forall_mem_cons.mpr ⟨lw_p60, List.forall_mem_cons.mpr ⟨lw_p61, List.forall_mem_cons.mpr ⟨lw_p62, List.forall_mem_cons.mpr ⟨lw_p63, fun _ h => absurd h List.not_mem_nil⟩⟩⟩⟩⟩⟩⟩⟩⟩⟩⟩⟩⟩⟩⟩⟩
theorem lw_p64 : lw_okq (⟨"CoarserOrdersModel", "takes", "(III)Z"⟩, 50) := ⟨⟨by decide +kernel, by decide +kernel⟩, List.mem_of_getElem? (i := 1080) (by decide +kernel), List.mem_of_getElem? (i := 1427) (by decide +kernel), List.mem_of_getElem? (i := 1428) (by decide +kernel)⟩
theorem lw_p65 : lw_okq (⟨"CoarserOrdersModel", "isSigned", "(II)Z"⟩, 50) := ⟨⟨by decide +kernel, by decide +kernel⟩, List.mem_of_getElem? (i := 1080) (by decide +kernel), List.mem_of_getElem? (i := 1431) (by decide +kernel), List.mem_of_getElem? (i := 1432) (by decide +kernel)⟩
theorem lw_p66 : lw_okq (⟨"CoarserOrdersModel", "comes", "(JI)I"⟩, 50) := ⟨⟨by decide +kernel, by decide +kernel⟩, List.mem_of_getElem? (i := 1080) (by decide +kernel), List.mem_of_getElem? (i := 1439) (by decide +kernel), List.mem_of_getElem? (i := 1440) (by decide +kernel)⟩
theorem lw_p67 : lw_okq (⟨"CoarserOrdersModel", "closedBy", "(J)J"⟩, 50) := ⟨⟨by decide +kernel, by decide +kernel⟩, List.mem_of_getElem? (i := 1080) (by decide +kernel), List.mem_of_getElem? (i := 1443) (by decide +kernel), List.mem_of_getElem? (i := 1444) (by decide +kernel)⟩
theorem lw_p68 : lw_okq (⟨"CoarserOrdersModel", "next", "()V"⟩, 50) := ⟨⟨by decide +kernel, by decide +kernel⟩, List.mem_of_getElem? (i := 1080) (by decide +kernel), List.mem_of_getElem? (i := 1457) (by decide +kernel), List.mem_of_getElem? (i := 1458) (by decide +kernel)⟩
theorem lw_p69 : lw_okq (⟨"CoarserOrdersModel", "cond", "()V"⟩, 50) := ⟨⟨by decide +kernel, by decide +kernel⟩, List.mem_of_getElem? (i := 1080) (by decide +kernel), List.mem_of_getElem? (i := 1467) (by decide +kernel), List.mem_of_getElem? (i := 1468) (by decide +kernel)⟩
theorem lw_p70 : lw_okq (⟨"CoarserOrdersModel", "all", "()V"⟩, 50) := ⟨⟨by decide +kernel, by decide +kernel⟩, List.mem_of_getElem? (i := 1080) (by decide +kernel), List.mem_of_getElem? (i := 1471) (by decide +kernel), List.mem_of_getElem? (i := 1472) (by decide +kernel)⟩
theorem lw_p71 : lw_okq (⟨"CoarserOrdersModel", "one", "()V"⟩, 50) := ⟨⟨by decide +kernel, by decide +kernel⟩, List.mem_of_getElem? (i := 1080) (by decide +kernel), List.mem_of_getElem? (i := 1475) (by decide +kernel), List.mem_of_getElem? (i := 1476) (by decide +kernel)⟩
theorem lw_p72 : lw_okq (⟨"CoarserOrdersModel", "is", "(Ljava/lang/String;)Z"⟩, 50) := ⟨⟨by decide +kernel, by decide +kernel⟩, List.mem_of_getElem? (i := 1080) (by decide +kernel), List.mem_of_getElem? (i := 1480) (by decide +kernel), List.mem_of_getElem? (i := 1481) (by decide +kernel)⟩
theorem lw_p73 : lw_okq (⟨"CoarserOrdersModel", "compared", "()V"⟩, 50) := ⟨⟨by decide +kernel, by decide +kernel⟩, List.mem_of_getElem? (i := 1080) (by decide +kernel), List.mem_of_getElem? (i := 1488) (by decide +kernel), List.mem_of_getElem? (i := 1489) (by decide +kernel)⟩
theorem lw_p74 : lw_okq (⟨"CoarserOrdersModel", "value", "()V"⟩, 50) := ⟨⟨by decide +kernel, by decide +kernel⟩, List.mem_of_getElem? (i := 1080) (by decide +kernel), List.mem_of_getElem? (i := 1492) (by decide +kernel), List.mem_of_getElem? (i := 1493) (by decide +kernel)⟩
theorem lw_p75 : lw_okq (⟨"CoarserOrdersModel", "factHere", "()I"⟩, 50) := ⟨⟨by decide +kernel, by decide +kernel⟩, List.mem_of_getElem? (i := 1080) (by decide +kernel), List.mem_of_getElem? (i := 1496) (by decide +kernel), List.mem_of_getElem? (i := 1497) (by decide +kernel)⟩
theorem lw_p76 : lw_okq (⟨"CoarserOrdersModel", "emits", "(I)V"⟩, 50) := ⟨⟨by decide +kernel, by decide +kernel⟩, List.mem_of_getElem? (i := 1080) (by decide +kernel), List.mem_of_getElem? (i := 1505) (by decide +kernel), List.mem_of_getElem? (i := 1506) (by decide +kernel)⟩
theorem lw_p77 : lw_okq (⟨"CoarserOrdersModel", "holds", "(I)Z"⟩, 50) := ⟨⟨by decide +kernel, by decide +kernel⟩, List.mem_of_getElem? (i := 1080) (by decide +kernel), List.mem_of_getElem? (i := 1514) (by decide +kernel), List.mem_of_getElem? (i := 1515) (by decide +kernel)⟩
theorem lw_p78 : lw_okq (⟨"CoarserOrdersModel", "fact", "(II)I"⟩, 50) := ⟨⟨by decide +kernel, by decide +kernel⟩, List.mem_of_getElem? (i := 1080) (by decide +kernel), List.mem_of_getElem? (i := 1518) (by decide +kernel), List.mem_of_getElem? (i := 1519) (by decide +kernel)⟩
theorem lw_p79 : lw_okq (⟨"CoarserOrdersModel", "leastOf", "(I)I"⟩, 50) := ⟨⟨by decide +kernel, by decide +kernel⟩, List.mem_of_getElem? (i := 1080) (by decide +kernel), List.mem_of_getElem? (i := 1533) (by decide +kernel), List.mem_of_getElem? (i := 1534) (by decide +kernel)⟩
def lw_privs_5 : List (MethodName × Nat) := [(⟨"CoarserOrdersModel", "takes", "(III)Z"⟩, 50), (⟨"CoarserOrdersModel", "isSigned", "(II)Z"⟩, 50), (⟨"CoarserOrdersModel", "comes", "(JI)I"⟩, 50), (⟨"CoarserOrdersModel", "closedBy", "(J)J"⟩, 50), (⟨"CoarserOrdersModel", "next", "()V"⟩, 50), (⟨"CoarserOrdersModel", "cond", "()V"⟩, 50), (⟨"CoarserOrdersModel", "all", "()V"⟩, 50), (⟨"CoarserOrdersModel", "one", "()V"⟩, 50), (⟨"CoarserOrdersModel", "is", "(Ljava/lang/String;)Z"⟩, 50), (⟨"CoarserOrdersModel", "compared", "()V"⟩, 50), (⟨"CoarserOrdersModel", "value", "()V"⟩, 50), (⟨"CoarserOrdersModel", "factHere", "()I"⟩, 50), (⟨"CoarserOrdersModel", "emits", "(I)V"⟩, 50), (⟨"CoarserOrdersModel", "holds", "(I)Z"⟩, 50), (⟨"CoarserOrdersModel", "fact", "(II)I"⟩, 50), (⟨"CoarserOrdersModel", "leastOf", "(I)I"⟩, 50)]
theorem lw_r5 : ∀ q ∈ lw_privs_5, lw_okq q := List.forall_mem_cons.mpr ⟨lw_p64, List.forall_mem_cons.mpr ⟨lw_p65, List.forall_mem_cons.mpr ⟨lw_p66, List.forall_mem_cons.mpr ⟨lw_p67, List.forall_mem_cons.mpr ⟨lw_p68, List.forall_mem_cons.mpr ⟨lw_p69, List.forall_mem_cons.mpr ⟨lw_p70, List.forall_mem_cons.mpr ⟨lw_p71, List.forall_mem_cons.mpr ⟨lw_p72, List.forall_mem_cons.mpr ⟨lw_p73, List.forall_mem_cons.mpr ⟨lw_p74, List.forall_mem_cons.mpr ⟨lw_p75, List.forall_mem_cons.mpr ⟨lw_p76, List.forall_mem_cons.mpr ⟨lw_p77, List.forall_mem_cons.mpr ⟨lw_p78, List.forall_mem_cons.mpr ⟨lw_p79, fun _ h => absurd h List.not_mem_nil⟩⟩⟩⟩⟩⟩⟩⟩⟩⟩⟩⟩⟩⟩⟩⟩
theorem lw_p80 : lw_okq (⟨"CoarserOrdersModel", "goes", "(IZJ)I"⟩, 50) := ⟨⟨by decide +kernel, by decide +kernel⟩, List.mem_of_getElem? (i := 1080) (by decide +kernel), List.mem_of_getElem? (i := 1537) (by decide +kernel), List.mem_of_getElem? (i := 1538) (by decide +kernel)⟩
theorem lw_p81 : lw_okq (⟨"CoarserOrdersModel", "placeIn", "(IZJ)I"⟩, 50) := ⟨⟨by decide +kernel, by decide +kernel⟩, List.mem_of_getElem? (i := 1080) (by decide +kernel), List.mem_of_getElem? (i := 1541) (by decide +kernel), List.mem_of_getElem? (i := 1542) (by decide +kernel)⟩
theorem lw_p82 : lw_okq (⟨"CoarserOrdersModel", "greatestOf", "(I)I"⟩, 50) := ⟨⟨by decide +kernel, by decide +kernel⟩, List.mem_of_getElem? (i := 1080) (by decide +kernel), List.mem_of_getElem? (i := 1545) (by decide +kernel), List.mem_of_getElem? (i := 1546) (by decide +kernel)⟩
theorem lw_p83 : lw_okq (⟨"CoarserOrdersModel", "manyAlike", "(I)I"⟩, 50) := ⟨⟨by decide +kernel, by decide +kernel⟩, List.mem_of_getElem? (i := 1080) (by decide +kernel), List.mem_of_getElem? (i := 1549) (by decide +kernel), List.mem_of_getElem? (i := 1550) (by decide +kernel)⟩
theorem lw_p84 : lw_okq (⟨"CoarserOrdersModel", "isLeast", "(I)Z"⟩, 50) := ⟨⟨by decide +kernel, by decide +kernel⟩, List.mem_of_getElem? (i := 1080) (by decide +kernel), List.mem_of_getElem? (i := 1557) (by decide +kernel), List.mem_of_getElem? (i := 1558) (by decide +kernel)⟩
theorem lw_p85 : lw_okq (⟨"CoarserOrdersModel", "turnsTo", "(II)I"⟩, 50) := ⟨⟨by decide +kernel, by decide +kernel⟩, List.mem_of_getElem? (i := 1080) (by decide +kernel), List.mem_of_getElem? (i := 1569) (by decide +kernel), List.mem_of_getElem? (i := 1570) (by decide +kernel)⟩
theorem lw_p86 : lw_okq (⟨"CoarserOrdersModel", "apartOf", "(II)I"⟩, 50) := ⟨⟨by decide +kernel, by decide +kernel⟩, List.mem_of_getElem? (i := 1080) (by decide +kernel), List.mem_of_getElem? (i := 1581) (by decide +kernel), List.mem_of_getElem? (i := 1582) (by decide +kernel)⟩
theorem lw_p87 : lw_okq (⟨"CoarserOrdersModel", "begins", "()V"⟩, 50) := ⟨⟨by decide +kernel, by decide +kernel⟩, List.mem_of_getElem? (i := 1080) (by decide +kernel), List.mem_of_getElem? (i := 1585) (by decide +kernel), List.mem_of_getElem? (i := 1586) (by decide +kernel)⟩
theorem lw_p88 : lw_okq (⟨"CoarserOrdersModel", "climbs", "()V"⟩, 50) := ⟨⟨by decide +kernel, by decide +kernel⟩, List.mem_of_getElem? (i := 1080) (by decide +kernel), List.mem_of_getElem? (i := 1593) (by decide +kernel), List.mem_of_getElem? (i := 1594) (by decide +kernel)⟩
theorem lw_p89 : lw_okq (⟨"CoarserOrdersModel", "nextBehind", "(I)I"⟩, 50) := ⟨⟨by decide +kernel, by decide +kernel⟩, List.mem_of_getElem? (i := 1080) (by decide +kernel), List.mem_of_getElem? (i := 1601) (by decide +kernel), List.mem_of_getElem? (i := 1602) (by decide +kernel)⟩
theorem lw_p90 : lw_okq (⟨"CoarserOrdersModel", "nearest", "(III)I"⟩, 50) := ⟨⟨by decide +kernel, by decide +kernel⟩, List.mem_of_getElem? (i := 1080) (by decide +kernel), List.mem_of_getElem? (i := 1605) (by decide +kernel), List.mem_of_getElem? (i := 1606) (by decide +kernel)⟩
theorem lw_p91 : lw_okq (⟨"CoarserOrdersModel", "closedFrom", "(IJJ)I"⟩, 50) := ⟨⟨by decide +kernel, by decide +kernel⟩, List.mem_of_getElem? (i := 1080) (by decide +kernel), List.mem_of_getElem? (i := 1613) (by decide +kernel), List.mem_of_getElem? (i := 1614) (by decide +kernel)⟩
theorem lw_p92 : lw_okq (⟨"CoarserOrdersModel", "areThrees", "(I)Z"⟩, 50) := ⟨⟨by decide +kernel, by decide +kernel⟩, List.mem_of_getElem? (i := 1080) (by decide +kernel), List.mem_of_getElem? (i := 1624) (by decide +kernel), List.mem_of_getElem? (i := 1625) (by decide +kernel)⟩
theorem lw_p93 : lw_okq (⟨"CoarserOrdersModel", "fits", "(IJ)Z"⟩, 50) := ⟨⟨by decide +kernel, by decide +kernel⟩, List.mem_of_getElem? (i := 1080) (by decide +kernel), List.mem_of_getElem? (i := 1628) (by decide +kernel), List.mem_of_getElem? (i := 1629) (by decide +kernel)⟩
theorem lw_p94 : lw_okq (⟨"CoarserOrdersModel", "rowByLot", "()I"⟩, 50) := ⟨⟨by decide +kernel, by decide +kernel⟩, List.mem_of_getElem? (i := 1080) (by decide +kernel), List.mem_of_getElem? (i := 1641) (by decide +kernel), List.mem_of_getElem? (i := 1642) (by decide +kernel)⟩
theorem lw_p95 : lw_okq (⟨"CoarserOrdersModel", "isStep", "(II)Z"⟩, 50) := ⟨⟨by decide +kernel, by decide +kernel⟩, List.mem_of_getElem? (i := 1080) (by decide +kernel), List.mem_of_getElem? (i := 1654) (by decide +kernel), List.mem_of_getElem? (i := 1655) (by decide +kernel)⟩
def lw_privs_6 : List (MethodName × Nat) := [(⟨"CoarserOrdersModel", "goes", "(IZJ)I"⟩, 50), (⟨"CoarserOrdersModel", "placeIn", "(IZJ)I"⟩, 50), (⟨"CoarserOrdersModel", "greatestOf", "(I)I"⟩, 50), (⟨"CoarserOrdersModel", "manyAlike", "(I)I"⟩, 50), (⟨"CoarserOrdersModel", "isLeast", "(I)Z"⟩, 50), (⟨"CoarserOrdersModel", "turnsTo", "(II)I"⟩, 50), (⟨"CoarserOrdersModel", "apartOf", "(II)I"⟩, 50), (⟨"CoarserOrdersModel", "begins", "()V"⟩, 50), (⟨"CoarserOrdersModel", "climbs", "()V"⟩, 50), (⟨"CoarserOrdersModel", "nextBehind", "(I)I"⟩, 50), (⟨"CoarserOrdersModel", "nearest", "(III)I"⟩, 50), (⟨"CoarserOrdersModel", "closedFrom", "(IJJ)I"⟩, 50), (⟨"CoarserOrdersModel", "areThrees", "(I)Z"⟩, 50), (⟨"CoarserOrdersModel", "fits", "(IJ)Z"⟩, 50), (⟨"CoarserOrdersModel", "rowByLot", "()I"⟩, 50), (⟨"CoarserOrdersModel", "isStep", "(II)Z"⟩, 50)]
theorem lw_r6 : ∀ q ∈ lw_privs_6, lw_okq q := List.forall_mem_cons.mpr ⟨lw_p80, List.forall_mem_cons.mpr ⟨lw_p81, List.forall_mem_cons.mpr ⟨lw_p82, List.forall_mem_cons.mpr ⟨lw_p83, List.forall_mem_cons.mpr ⟨lw_p84, List.forall_mem_cons.mpr ⟨lw_p85, List.forall_mem_cons.mpr ⟨lw_p86, List.forall_mem_cons.mpr ⟨lw_p87, List.forall_mem_cons.mpr ⟨lw_p88, List.forall_mem_cons.mpr ⟨lw_p89, List.forall_mem_cons.mpr ⟨lw_p90, List.forall_mem_cons.mpr ⟨lw_p91, List.forall_mem_cons.mpr ⟨lw_p92, List.forall_mem_cons.mpr ⟨lw_p93, List.forall_mem_cons.mpr ⟨lw_p94, List.forall_mem_cons.mpr ⟨lw_p95, fun _ h => absurd h List.not_mem_nil⟩⟩⟩⟩⟩⟩⟩⟩⟩⟩⟩⟩⟩⟩⟩⟩
theorem lw_p96 : lw_okq (⟨"CoarserOrdersModel", "isRight", "(II)Z"⟩, 50) := ⟨⟨by decide +kernel, by decide +kernel⟩, List.mem_of_getElem? (i := 1080) (by decide +kernel), List.mem_of_getElem? (i := 1666) (by decide +kernel), List.mem_of_getElem? (i := 1667) (by decide +kernel)⟩
theorem lw_p97 : lw_okq (⟨"CoarserOrdersModel", "heldBy", "(I)I"⟩, 50) := ⟨⟨by decide +kernel, by decide +kernel⟩, List.mem_of_getElem? (i := 1080) (by decide +kernel), List.mem_of_getElem? (i := 1706) (by decide +kernel), List.mem_of_getElem? (i := 1707) (by decide +kernel)⟩
theorem lw_p98 : lw_okq (⟨"CoarserOrdersModel", "turns", "(I)I"⟩, 50) := ⟨⟨by decide +kernel, by decide +kernel⟩, List.mem_of_getElem? (i := 1080) (by decide +kernel), List.mem_of_getElem? (i := 1717) (by decide +kernel), List.mem_of_getElem? (i := 1718) (by decide +kernel)⟩
theorem lw_p99 : lw_okq (⟨"CoarserOrdersModel", "ran", "(I)V"⟩, 50) := ⟨⟨by decide +kernel, by decide +kernel⟩, List.mem_of_getElem? (i := 1080) (by decide +kernel), List.mem_of_getElem? (i := 1721) (by decide +kernel), List.mem_of_getElem? (i := 1722) (by decide +kernel)⟩
theorem lw_p100 : lw_okq (⟨"CoarserOrdersModel", "leftyTurns", "(I)I"⟩, 50) := ⟨⟨by decide +kernel, by decide +kernel⟩, List.mem_of_getElem? (i := 1080) (by decide +kernel), List.mem_of_getElem? (i := 1725) (by decide +kernel), List.mem_of_getElem? (i := 1726) (by decide +kernel)⟩
theorem lw_p101 : lw_okq (⟨"CoarserOrdersModel", "plainTurns", "(I)I"⟩, 50) := ⟨⟨by decide +kernel, by decide +kernel⟩, List.mem_of_getElem? (i := 1080) (by decide +kernel), List.mem_of_getElem? (i := 1729) (by decide +kernel), List.mem_of_getElem? (i := 1730) (by decide +kernel)⟩
theorem lw_p102 : lw_okq (⟨"CoarserOrdersModel", "bends", "(I)I"⟩, 50) := ⟨⟨by decide +kernel, by decide +kernel⟩, List.mem_of_getElem? (i := 1080) (by decide +kernel), List.mem_of_getElem? (i := 1733) (by decide +kernel), List.mem_of_getElem? (i := 1734) (by decide +kernel)⟩
theorem lw_p103 : lw_okq (⟨"CoarserOrdersModel", "plainBends", "(I)I"⟩, 50) := ⟨⟨by decide +kernel, by decide +kernel⟩, List.mem_of_getElem? (i := 1080) (by decide +kernel), List.mem_of_getElem? (i := 1737) (by decide +kernel), List.mem_of_getElem? (i := 1738) (by decide +kernel)⟩
theorem lw_p104 : lw_okq (⟨"CoarserOrdersModel", "parts", "(I)I"⟩, 50) := ⟨⟨by decide +kernel, by decide +kernel⟩, List.mem_of_getElem? (i := 1080) (by decide +kernel), List.mem_of_getElem? (i := 1741) (by decide +kernel), List.mem_of_getElem? (i := 1742) (by decide +kernel)⟩
theorem lw_p105 : lw_okq (⟨"CoarserOrdersModel", "longerParts", "(I)I"⟩, 50) := ⟨⟨by decide +kernel, by decide +kernel⟩, List.mem_of_getElem? (i := 1080) (by decide +kernel), List.mem_of_getElem? (i := 1745) (by decide +kernel), List.mem_of_getElem? (i := 1746) (by decide +kernel)⟩
theorem lw_p106 : lw_okq (⟨"CoarserOrdersModel", "plainParts", "(I)I"⟩, 50) := ⟨⟨by decide +kernel, by decide +kernel⟩, List.mem_of_getElem? (i := 1080) (by decide +kernel), List.mem_of_getElem? (i := 1749) (by decide +kernel), List.mem_of_getElem? (i := 1750) (by decide +kernel)⟩
theorem lw_p107 : lw_okq (⟨"CoarserOrdersModel", "joins", "(I)I"⟩, 50) := ⟨⟨by decide +kernel, by decide +kernel⟩, List.mem_of_getElem? (i := 1080) (by decide +kernel), List.mem_of_getElem? (i := 1753) (by decide +kernel), List.mem_of_getElem? (i := 1754) (by decide +kernel)⟩
theorem lw_p108 : lw_okq (⟨"CoarserOrdersModel", "plainJoins", "(I)I"⟩, 50) := ⟨⟨by decide +kernel, by decide +kernel⟩, List.mem_of_getElem? (i := 1080) (by decide +kernel), List.mem_of_getElem? (i := 1757) (by decide +kernel), List.mem_of_getElem? (i := 1758) (by decide +kernel)⟩
theorem lw_p109 : lw_okq (⟨"CoarserOrdersModel", "manyClasses", "(Z)I"⟩, 50) := ⟨⟨by decide +kernel, by decide +kernel⟩, List.mem_of_getElem? (i := 1080) (by decide +kernel), List.mem_of_getElem? (i := 1769) (by decide +kernel), List.mem_of_getElem? (i := 1770) (by decide +kernel)⟩
def lw_privs_7 : List (MethodName × Nat) := [(⟨"CoarserOrdersModel", "isRight", "(II)Z"⟩, 50), (⟨"CoarserOrdersModel", "heldBy", "(I)I"⟩, 50), (⟨"CoarserOrdersModel", "turns", "(I)I"⟩, 50), (⟨"CoarserOrdersModel", "ran", "(I)V"⟩, 50), (⟨"CoarserOrdersModel", "leftyTurns", "(I)I"⟩, 50), (⟨"CoarserOrdersModel", "plainTurns", "(I)I"⟩, 50), (⟨"CoarserOrdersModel", "bends", "(I)I"⟩, 50), (⟨"CoarserOrdersModel", "plainBends", "(I)I"⟩, 50), (⟨"CoarserOrdersModel", "parts", "(I)I"⟩, 50), (⟨"CoarserOrdersModel", "longerParts", "(I)I"⟩, 50), (⟨"CoarserOrdersModel", "plainParts", "(I)I"⟩, 50), (⟨"CoarserOrdersModel", "joins", "(I)I"⟩, 50), (⟨"CoarserOrdersModel", "plainJoins", "(I)I"⟩, 50), (⟨"CoarserOrdersModel", "manyClasses", "(Z)I"⟩, 50)]
theorem lw_r7 : ∀ q ∈ lw_privs_7, lw_okq q := List.forall_mem_cons.mpr ⟨lw_p96, List.forall_mem_cons.mpr ⟨lw_p97, List.forall_mem_cons.mpr ⟨lw_p98, List.forall_mem_cons.mpr ⟨lw_p99, List.forall_mem_cons.mpr ⟨lw_p100, List.forall_mem_cons.mpr ⟨lw_p101, List.forall_mem_cons.mpr ⟨lw_p102, List.forall_mem_cons.mpr ⟨lw_p103, List.forall_mem_cons.mpr ⟨lw_p104, List.forall_mem_cons.mpr ⟨lw_p105, List.forall_mem_cons.mpr ⟨lw_p106, List.forall_mem_cons.mpr ⟨lw_p107, List.forall_mem_cons.mpr ⟨lw_p108, List.forall_mem_cons.mpr ⟨lw_p109, fun _ h => absurd h List.not_mem_nil⟩⟩⟩⟩⟩⟩⟩⟩⟩⟩⟩⟩⟩⟩
def lw_privs : List (MethodName × Nat) := lw_privs_1 ++ (lw_privs_2 ++ (lw_privs_3 ++ (lw_privs_4 ++ (lw_privs_5 ++ (lw_privs_6 ++ (lw_privs_7))))))
def lw_tbl : List Cond := k2_sels lw_privs ++ tables_1
theorem lw_privs_ok : ∀ q ∈ lw_privs, lw_okq q := by
  show ∀ q ∈ lw_privs_1 ++ (lw_privs_2 ++ (lw_privs_3 ++ (lw_privs_4 ++ (lw_privs_5 ++ (lw_privs_6 ++ (lw_privs_7)))))), lw_okq q
  exact List.forall_mem_append.mpr ⟨lw_r1, List.forall_mem_append.mpr ⟨lw_r2, List.forall_mem_append.mpr ⟨lw_r3, List.forall_mem_append.mpr ⟨lw_r4, List.forall_mem_append.mpr ⟨lw_r5, List.forall_mem_append.mpr ⟨lw_r6, lw_r7⟩⟩⟩⟩⟩⟩
-- ===== end of PART A; then your names; then what follows =====
def RX0 : String := "CoarserOrders$Acts"
def TX0 : u_T := fun k => match k with
  | 0 => ("CoarserOrders$Acts", "traced", "I", false)
  | 1 => ("CoarserOrders$Acts", "bodies", "[I", true)
  | 2 => ("CoarserOrders$Acts", "kind", "I", false)
  | 3 => ("CoarserOrders$Acts", "m", "I", false)
  | 4 => ("CoarserOrders$Acts", "number", "I", false)
  | _ => ("CoarserOrders$Acts", "isParted", "Z", false)
def tyX0 : Nat → FieldType := fun k => match k with
  | 0 => .int
  | 1 => .array .int
  | 2 => .int
  | 3 => .int
  | 4 => .int
  | _ => .boolean
abbrev wsX00 : List Cond := u_ws RX0 TX0 6
theorem nmX0 : ∀ a, a < 6 → ∀ b, b < 6 → a ≠ b → (TX0 a).2.1 ≠ (TX0 b).2.1 := by decide +kernel
theorem tyX0_ok : ∀ k, k < 6 → parseFieldDescriptor (TX0 k).2.2.1 = some (tyX0 k) := by decide +kernel
abbrev cX0_init : ByteArray := prog_2_method_1_code
def yX0_init : MethodName := ⟨RX0, "<init>", "()V"⟩
abbrev cX0_forget : ByteArray := prog_2_method_2_code
def yX0_forget : MethodName := ⟨RX0, "forget", "()V"⟩
abbrev cX0_perform : ByteArray := prog_2_method_3_code
def yX0_perform : MethodName := ⟨RX0, "perform", "(IIIII)I"⟩
abbrev cX0_bodyFrom : ByteArray := prog_2_method_4_code
def yX0_bodyFrom : MethodName := ⟨RX0, "bodyFrom", "(II)I"⟩
abbrev cX0_own : ByteArray := prog_2_method_5_code
def yX0_own : MethodName := ⟨RX0, "own", "(III)I"⟩
abbrev cX0_above : ByteArray := prog_2_method_6_code
def yX0_above : MethodName := ⟨RX0, "above", "(IIII)I"⟩
abbrev cX0_run : ByteArray := prog_2_method_7_code
def yX0_run : MethodName := ⟨RX0, "run", "(III)I"⟩
abbrev cX0_partedBy : ByteArray := prog_2_method_8_code
def yX0_partedBy : MethodName := ⟨RX0, "partedBy", "(II)I"⟩
def RX1 : String := "CoarserOrders$Arcs"
def TX1 : u_T := fun k => match k with
  | 0 => ("CoarserOrders$Arcs", "n", "I", true)
  | 1 => ("CoarserOrders$Arcs", "count", "I", true)
  | 2 => ("CoarserOrders$Arcs", "all", "J", true)
  | 3 => ("CoarserOrders$Arcs", "low", "[I", true)
  | 4 => ("CoarserOrders$Arcs", "high", "[I", true)
  | 5 => ("CoarserOrders$Arcs", "left", "[I", true)
  | 6 => ("CoarserOrders$Arcs", "lefts", "[I", true)
  | 7 => ("CoarserOrders$Arcs", "rights", "[I", true)
  | 8 => ("CoarserOrders$Arcs", "forced", "[J", true)
  | 9 => ("CoarserOrders$Arcs", "forcing", "[J", true)
  | 10 => ("CoarserOrders$Arcs", "firsts", "[I", true)
  | _ => ("CoarserOrders$Arcs", "idle", "J", true)
def tyX1 : Nat → FieldType := fun k => match k with
  | 0 => .int
  | 1 => .int
  | 2 => .long
  | 3 => .array .int
  | 4 => .array .int
  | 5 => .array .int
  | 6 => .array .int
  | 7 => .array .int
  | 8 => .array .long
  | 9 => .array .long
  | 10 => .array .int
  | _ => .long
abbrev wsX10 : List Cond := u_ws RX1 TX1 12
theorem nmX1 : ∀ a, a < 12 → ∀ b, b < 12 → a ≠ b → (TX1 a).2.1 ≠ (TX1 b).2.1 := by decide +kernel
theorem tyX1_ok : ∀ k, k < 12 → parseFieldDescriptor (TX1 k).2.2.1 = some (tyX1 k) := by decide +kernel
abbrev cX1_init : ByteArray := prog_3_method_1_code
def yX1_init : MethodName := ⟨RX1, "<init>", "(I)V"⟩
abbrev cX1_numberArcs : ByteArray := prog_3_method_2_code
def yX1_numberArcs : MethodName := ⟨RX1, "numberArcs", "()V"⟩
abbrev cX1_relateArcs : ByteArray := prog_3_method_3_code
def yX1_relateArcs : MethodName := ⟨RX1, "relateArcs", "()V"⟩
abbrev cX1_lastsIn : ByteArray := prog_3_method_4_code
def yX1_lastsIn : MethodName := ⟨RX1, "lastsIn", "(II)Z"⟩
abbrev cX1_numberOf : ByteArray := prog_3_method_5_code
def yX1_numberOf : MethodName := ⟨RX1, "numberOf", "(III)I"⟩
abbrev cX1_withForced : ByteArray := prog_3_method_6_code
def yX1_withForced : MethodName := ⟨RX1, "withForced", "(J)J"⟩
abbrev cX1_leastRowWith : ByteArray := prog_3_method_7_code
def yX1_leastRowWith : MethodName := ⟨RX1, "leastRowWith", "(I)I"⟩
abbrev cX1_withBetween : ByteArray := prog_3_method_8_code
def yX1_withBetween : MethodName := ⟨RX1, "withBetween", "(III)I"⟩
abbrev cX1_closedSets : ByteArray := prog_3_method_9_code
def yX1_closedSets : MethodName := ⟨RX1, "closedSets", "(J)I"⟩
abbrev cX1_countClosed : ByteArray := prog_3_method_10_code
def yX1_countClosed : MethodName := ⟨RX1, "countClosed", "(LCoarserOrders$Arcs;JI)I"⟩
def RX2 : String := "CoarserOrders$Listing"
def TX2 : u_T := fun k => match k with
  | 0 => ("CoarserOrders$Listing", "count", "I", false)
  | 1 => ("CoarserOrders$Listing", "came", "[I", true)
  | 2 => ("CoarserOrders$Listing", "seen", "[I", true)
  | 3 => ("CoarserOrders$Listing", "forN", "I", false)
  | _ => ("CoarserOrders$Listing", "forGone", "J", false)
def tyX2 : Nat → FieldType := fun k => match k with
  | 0 => .int
  | 1 => .array .int
  | 2 => .array .int
  | 3 => .int
  | _ => .long
abbrev wsX20 : List Cond := u_ws RX2 TX2 5
theorem nmX2 : ∀ a, a < 5 → ∀ b, b < 5 → a ≠ b → (TX2 a).2.1 ≠ (TX2 b).2.1 := by decide +kernel
theorem tyX2_ok : ∀ k, k < 5 → parseFieldDescriptor (TX2 k).2.2.1 = some (tyX2 k) := by decide +kernel
abbrev cX2_init : ByteArray := prog_4_method_1_code
def yX2_init : MethodName := ⟨RX2, "<init>", "()V"⟩
abbrev cX2_bringUpTo : ByteArray := prog_4_method_2_code
def yX2_bringUpTo : MethodName := ⟨RX2, "bringUpTo", "(LCoarserOrders$Rows;J)V"⟩
abbrev cX2_nextBehind : ByteArray := prog_4_method_3_code
def yX2_nextBehind : MethodName := ⟨RX2, "nextBehind", "(LCoarserOrders$Rows;IJ)I"⟩
def RX3 : String := "CoarserOrders$Makers"
def TX3 : u_T := fun k => match k with
  | 0 => ("CoarserOrders$Makers", "count", "I", false)
  | 1 => ("CoarserOrders$Makers", "kinds", "[I", true)
  | _ => ("CoarserOrders$Makers", "ems", "[I", true)
def tyX3 : Nat → FieldType := fun k => match k with
  | 0 => .int
  | 1 => .array .int
  | _ => .array .int
abbrev wsX30 : List Cond := u_ws RX3 TX3 3
theorem nmX3 : ∀ a, a < 3 → ∀ b, b < 3 → a ≠ b → (TX3 a).2.1 ≠ (TX3 b).2.1 := by decide +kernel
theorem tyX3_ok : ∀ k, k < 3 → parseFieldDescriptor (TX3 k).2.2.1 = some (tyX3 k) := by decide +kernel
abbrev cX3_init : ByteArray := prog_5_method_1_code
def yX3_init : MethodName := ⟨RX3, "<init>", "()V"⟩
abbrev cX3_has : ByteArray := prog_5_method_2_code
def yX3_has : MethodName := ⟨RX3, "has", "(I)Z"⟩
abbrev cX3_add : ByteArray := prog_5_method_3_code
def yX3_add : MethodName := ⟨RX3, "add", "(II)I"⟩
abbrev cX3_becomeLike : ByteArray := prog_5_method_4_code
def yX3_becomeLike : MethodName := ⟨RX3, "becomeLike", "(LCoarserOrders$Makers;)V"⟩
abbrev cX3_isUnder : ByteArray := prog_5_method_5_code
def yX3_isUnder : MethodName := ⟨RX3, "isUnder", "(II)Z"⟩
abbrev cX3_takenBy : ByteArray := prog_5_method_6_code
def yX3_takenBy : MethodName := ⟨RX3, "takenBy", "(IILCoarserOrders$Arcs;)J"⟩
abbrev cX3_takes : ByteArray := prog_5_method_7_code
def yX3_takes : MethodName := ⟨RX3, "takes", "(IILCoarserOrders$Arcs;I)Z"⟩
abbrev cX3_signsWithin : ByteArray := prog_5_method_8_code
def yX3_signsWithin : MethodName := ⟨RX3, "signsWithin", "(III)I"⟩
def RX4 : String := "CoarserOrders$Rows"
def TX4 : u_T := fun k => match k with
  | 0 => ("CoarserOrders$Rows", "n", "I", true)
  | 1 => ("CoarserOrders$Rows", "count", "I", true)
  | 2 => ("CoarserOrders$Rows", "gaps", "I", true)
  | 3 => ("CoarserOrders$Rows", "arcs", "LCoarserOrders$Arcs;", true)
  | 4 => ("CoarserOrders$Rows", "numbers", "[I", true)
  | 5 => ("CoarserOrders$Rows", "swapped", "[I", true)
  | 6 => ("CoarserOrders$Rows", "drops", "[I", true)
  | 7 => ("CoarserOrders$Rows", "diagrams", "[J", true)
  | 8 => ("CoarserOrders$Rows", "arcAt", "[I", true)
  | _ => ("CoarserOrders$Rows", "beside", "[I", true)
def tyX4 : Nat → FieldType := fun k => match k with
  | 0 => .int
  | 1 => .int
  | 2 => .int
  | 3 => .object "CoarserOrders$Arcs"
  | 4 => .array .int
  | 5 => .array .int
  | 6 => .array .int
  | 7 => .array .long
  | 8 => .array .int
  | _ => .array .int
abbrev wsX40 : List Cond := u_ws RX4 TX4 10
theorem nmX4 : ∀ a, a < 10 → ∀ b, b < 10 → a ≠ b → (TX4 a).2.1 ≠ (TX4 b).2.1 := by decide +kernel
theorem tyX4_ok : ∀ k, k < 10 → parseFieldDescriptor (TX4 k).2.2.1 = some (tyX4 k) := by decide +kernel
abbrev cX4_init : ByteArray := prog_6_method_1_code
def yX4_init : MethodName := ⟨RX4, "<init>", "(I)V"⟩
abbrev cX4_numberAt : ByteArray := prog_6_method_2_code
def yX4_numberAt : MethodName := ⟨RX4, "numberAt", "(I)I"⟩
abbrev cX4_freeValue : ByteArray := prog_6_method_3_code
def yX4_freeValue : MethodName := ⟨RX4, "freeValue", "(II)I"⟩
abbrev cX4_fillSwapped : ByteArray := prog_6_method_4_code
def yX4_fillSwapped : MethodName := ⟨RX4, "fillSwapped", "(I[I)V"⟩
abbrev cX4_fillGaps : ByteArray := prog_6_method_5_code
def yX4_fillGaps : MethodName := ⟨RX4, "fillGaps", "(I[I)V"⟩
abbrev cX4_arcIn : ByteArray := prog_6_method_6_code
def yX4_arcIn : MethodName := ⟨RX4, "arcIn", "([II)I"⟩
abbrev cX4_find : ByteArray := prog_6_method_7_code
def yX4_find : MethodName := ⟨RX4, "find", "(I)I"⟩
abbrev cX4_valueAt : ByteArray := prog_6_method_8_code
def yX4_valueAt : MethodName := ⟨RX4, "valueAt", "(II)I"⟩
abbrev cX4_turnedRound : ByteArray := prog_6_method_9_code
def yX4_turnedRound : MethodName := ⟨RX4, "turnedRound", "(I)I"⟩
abbrev cX4_isBelow : ByteArray := prog_6_method_10_code
def yX4_isBelow : MethodName := ⟨RX4, "isBelow", "(II)Z"⟩
abbrev cX4_meetOf : ByteArray := prog_6_method_11_code
def yX4_meetOf : MethodName := ⟨RX4, "meetOf", "(II)I"⟩
abbrev cX4_joinOf : ByteArray := prog_6_method_12_code
def yX4_joinOf : MethodName := ⟨RX4, "joinOf", "(II)I"⟩
abbrev cX4_isDrop : ByteArray := prog_6_method_13_code
def yX4_isDrop : MethodName := ⟨RX4, "isDrop", "(II)Z"⟩
abbrev cX4_placeOf : ByteArray := prog_6_method_14_code
def yX4_placeOf : MethodName := ⟨RX4, "placeOf", "(II)I"⟩
abbrev cX4_jumped : ByteArray := prog_6_method_15_code
def yX4_jumped : MethodName := ⟨RX4, "jumped", "(III)I"⟩
abbrev cX4_passed : ByteArray := prog_6_method_16_code
def yX4_passed : MethodName := ⟨RX4, "passed", "(III)I"⟩
abbrev cX4_nearestLeast : ByteArray := prog_6_method_17_code
def yX4_nearestLeast : MethodName := ⟨RX4, "nearestLeast", "(IIIJ)I"⟩
abbrev cX4_withDiagram : ByteArray := prog_6_method_18_code
def yX4_withDiagram : MethodName := ⟨RX4, "withDiagram", "(J)I"⟩
abbrev cX4_arcsBetween : ByteArray := prog_6_method_19_code
def yX4_arcsBetween : MethodName := ⟨RX4, "arcsBetween", "(II)J"⟩
abbrev cX4_firstGone : ByteArray := prog_6_method_20_code
def yX4_firstGone : MethodName := ⟨RX4, "firstGone", "(IIJ)I"⟩
abbrev cX4_isLeast : ByteArray := prog_6_method_21_code
def yX4_isLeast : MethodName := ⟨RX4, "isLeast", "(IJ)Z"⟩
abbrev cX4_leastOf : ByteArray := prog_6_method_22_code
def yX4_leastOf : MethodName := ⟨RX4, "leastOf", "(IJ)I"⟩
abbrev cX4_greatestOf : ByteArray := prog_6_method_23_code
def yX4_greatestOf : MethodName := ⟨RX4, "greatestOf", "(IJ)I"⟩
abbrev cX4_howManyAlike : ByteArray := prog_6_method_24_code
def yX4_howManyAlike : MethodName := ⟨RX4, "howManyAlike", "(IJ)I"⟩
abbrev cX4_leastRowAt : ByteArray := prog_6_method_25_code
def yX4_leastRowAt : MethodName := ⟨RX4, "leastRowAt", "(IJ)I"⟩
abbrev cX4_howManyClasses : ByteArray := prog_6_method_26_code
def yX4_howManyClasses : MethodName := ⟨RX4, "howManyClasses", "(J)I"⟩
abbrev cX4_howManyRightUnder : ByteArray := prog_6_method_27_code
def yX4_howManyRightUnder : MethodName := ⟨RX4, "howManyRightUnder", "(J)I"⟩
def RX5 : String := "CoarserOrders$Sheets"
def TX5 : u_T := fun k => match k with
  | 0 => ("CoarserOrders$Sheets", "sorts", "[I", true)
  | 1 => ("CoarserOrders$Sheets", "lengths", "[I", true)
  | _ => ("CoarserOrders$Sheets", "items", "[[J", true)
def tyX5 : Nat → FieldType := fun k => match k with
  | 0 => .array .int
  | 1 => .array .int
  | _ => .array (.array .long)
abbrev wsX50 : List Cond := u_ws RX5 TX5 3
theorem nmX5 : ∀ a, a < 3 → ∀ b, b < 3 → a ≠ b → (TX5 a).2.1 ≠ (TX5 b).2.1 := by decide +kernel
theorem tyX5_ok : ∀ k, k < 3 → parseFieldDescriptor (TX5 k).2.2.1 = some (tyX5 k) := by decide +kernel
abbrev cX5_init : ByteArray := prog_7_method_1_code
def yX5_init : MethodName := ⟨RX5, "<init>", "()V"⟩
abbrev cX5_has : ByteArray := prog_7_method_2_code
def yX5_has : MethodName := ⟨RX5, "has", "(I)Z"⟩
abbrev cX5_renew : ByteArray := prog_7_method_3_code
def yX5_renew : MethodName := ⟨RX5, "renew", "(III)I"⟩
abbrev cX5_refusal : ByteArray := prog_7_method_4_code
def yX5_refusal : MethodName := ⟨RX5, "refusal", "(II)I"⟩
abbrev cX5_reaches : ByteArray := prog_7_method_5_code
def yX5_reaches : MethodName := ⟨RX5, "reaches", "(III)Z"⟩
abbrev cX5_narrowed : ByteArray := prog_7_method_6_code
def yX5_narrowed : MethodName := ⟨RX5, "narrowed", "(JI)J"⟩
def RX6 : String := "CoarserOrders$Shelves"
def TX6 : u_T := fun k => match k with
  | 0 => ("CoarserOrders$Shelves", "held", "[I", true)
  | 1 => ("CoarserOrders$Shelves", "things", "[I", true)
  | _ => ("CoarserOrders$Shelves", "lengths", "[I", true)
def tyX6 : Nat → FieldType := fun k => match k with
  | 0 => .array .int
  | 1 => .array .int
  | _ => .array .int
abbrev wsX60 : List Cond := u_ws RX6 TX6 3
theorem nmX6 : ∀ a, a < 3 → ∀ b, b < 3 → a ≠ b → (TX6 a).2.1 ≠ (TX6 b).2.1 := by decide +kernel
theorem tyX6_ok : ∀ k, k < 3 → parseFieldDescriptor (TX6 k).2.2.1 = some (tyX6 k) := by decide +kernel
abbrev cX6_init : ByteArray := prog_8_method_1_code
def yX6_init : MethodName := ⟨RX6, "<init>", "()V"⟩
abbrev cX6_has : ByteArray := prog_8_method_2_code
def yX6_has : MethodName := ⟨RX6, "has", "(I)Z"⟩
abbrev cX6_holdMaker : ByteArray := prog_8_method_3_code
def yX6_holdMaker : MethodName := ⟨RX6, "holdMaker", "(II)I"⟩
abbrev cX6_holdRow : ByteArray := prog_8_method_4_code
def yX6_holdRow : MethodName := ⟨RX6, "holdRow", "(III)I"⟩
abbrev cX6_holdNothing : ByteArray := prog_8_method_5_code
def yX6_holdNothing : MethodName := ⟨RX6, "holdNothing", "(I)I"⟩
def RX7 : String := "CoarserOrders$Stairs"
def TX7 : u_T := fun k => match k with
  | 0 => ("CoarserOrders$Stairs", "count", "I", false)
  | _ => ("CoarserOrders$Stairs", "told", "[I", true)
def tyX7 : Nat → FieldType := fun k => match k with
  | 0 => .int
  | _ => .array .int
abbrev wsX70 : List Cond := u_ws RX7 TX7 2
theorem nmX7 : ∀ a, a < 2 → ∀ b, b < 2 → a ≠ b → (TX7 a).2.1 ≠ (TX7 b).2.1 := by decide +kernel
theorem tyX7_ok : ∀ k, k < 2 → parseFieldDescriptor (TX7 k).2.2.1 = some (tyX7 k) := by decide +kernel
abbrev cX7_init : ByteArray := prog_9_method_1_code
def yX7_init : MethodName := ⟨RX7, "<init>", "()V"⟩
abbrev cX7_has : ByteArray := prog_9_method_2_code
def yX7_has : MethodName := ⟨RX7, "has", "(II)Z"⟩
abbrev cX7_goDown : ByteArray := prog_9_method_3_code
def yX7_goDown : MethodName := ⟨RX7, "goDown", "(LCoarserOrders$Rows;JI)I"⟩
abbrev cX7_firstWrong : ByteArray := prog_9_method_4_code
def yX7_firstWrong : MethodName := ⟨RX7, "firstWrong", "(LCoarserOrders$Rows;JI)I"⟩
abbrev cX7_isRight : ByteArray := prog_9_method_5_code
def yX7_isRight : MethodName := ⟨RX7, "isRight", "(LCoarserOrders$Rows;JIII)Z"⟩
def RX8 : String := "CoarserOrders$Tape"
def TX8 : u_T := fun k => match k with
  | 0 => ("CoarserOrders$Tape", "count", "I", false)
  | 1 => ("CoarserOrders$Tape", "fault", "I", false)
  | 2 => ("CoarserOrders$Tape", "bytes", "[I", true)
  | 3 => ("CoarserOrders$Tape", "words", "[I", true)
  | 4 => ("CoarserOrders$Tape", "begins", "[I", true)
  | 5 => ("CoarserOrders$Tape", "worths", "[I", true)
  | 6 => ("CoarserOrders$Tape", "at", "I", false)
  | _ => ("CoarserOrders$Tape", "arcs", "LCoarserOrders$Arcs;", false)
def tyX8 : Nat → FieldType := fun k => match k with
  | 0 => .int
  | 1 => .int
  | 2 => .array .int
  | 3 => .array .int
  | 4 => .array .int
  | 5 => .array .int
  | 6 => .int
  | _ => .object "CoarserOrders$Arcs"
abbrev wsX80 : List Cond := u_ws RX8 TX8 8
theorem nmX8 : ∀ a, a < 8 → ∀ b, b < 8 → a ≠ b → (TX8 a).2.1 ≠ (TX8 b).2.1 := by decide +kernel
theorem tyX8_ok : ∀ k, k < 8 → parseFieldDescriptor (TX8 k).2.2.1 = some (tyX8 k) := by decide +kernel
abbrev cX8_init : ByteArray := prog_10_method_1_code
def yX8_init : MethodName := ⟨RX8, "<init>", "()V"⟩
abbrev cX8_hasRoomFor : ByteArray := prog_10_method_2_code
def yX8_hasRoomFor : MethodName := ⟨RX8, "hasRoomFor", "(I)Z"⟩
abbrev cX8_take : ByteArray := prog_10_method_3_code
def yX8_take : MethodName := ⟨RX8, "take", "(JI)I"⟩
abbrev cX8_read : ByteArray := prog_10_method_4_code
def yX8_read : MethodName := ⟨RX8, "read", "(LCoarserOrders$Arcs;)J"⟩
abbrev cX8_splitIntoWords : ByteArray := prog_10_method_5_code
def yX8_splitIntoWords : MethodName := ⟨RX8, "splitIntoWords", "()V"⟩
abbrev cX8_endOfWord : ByteArray := prog_10_method_6_code
def yX8_endOfWord : MethodName := ⟨RX8, "endOfWord", "(I)I"⟩
abbrev cX8_wordAt : ByteArray := prog_10_method_7_code
def yX8_wordAt : MethodName := ⟨RX8, "wordAt", "(II)I"⟩
abbrev cX8_worthOf : ByteArray := prog_10_method_8_code
def yX8_worthOf : MethodName := ⟨RX8, "worthOf", "(II)I"⟩
abbrev cX8_nameAt : ByteArray := prog_10_method_9_code
def yX8_nameAt : MethodName := ⟨RX8, "nameAt", "(II)I"⟩
abbrev cX8_isName : ByteArray := prog_10_method_10_code
def yX8_isName : MethodName := ⟨RX8, "isName", "(Ljava/lang/String;II)Z"⟩
abbrev cX8_isDigit : ByteArray := prog_10_method_11_code
def yX8_isDigit : MethodName := ⟨RX8, "isDigit", "(I)Z"⟩
abbrev cX8_isLetter : ByteArray := prog_10_method_12_code
def yX8_isLetter : MethodName := ⟨RX8, "isLetter", "(I)Z"⟩
abbrev cX8_pass : ByteArray := prog_10_method_13_code
def yX8_pass : MethodName := ⟨RX8, "pass", "(Z)V"⟩
abbrev cX8_anyOf : ByteArray := prog_10_method_14_code
def yX8_anyOf : MethodName := ⟨RX8, "anyOf", "(I)J"⟩
abbrev cX8_allOf : ByteArray := prog_10_method_15_code
def yX8_allOf : MethodName := ⟨RX8, "allOf", "(I)J"⟩
abbrev cX8_oneOf : ByteArray := prog_10_method_16_code
def yX8_oneOf : MethodName := ⟨RX8, "oneOf", "(I)J"⟩
abbrev cX8_compared : ByteArray := prog_10_method_17_code
def yX8_compared : MethodName := ⟨RX8, "compared", "()J"⟩
abbrev cX8_isValue : ByteArray := prog_10_method_18_code
def yX8_isValue : MethodName := ⟨RX8, "isValue", "(I)Z"⟩
abbrev cX8_holds : ByteArray := prog_10_method_19_code
def yX8_holds : MethodName := ⟨RX8, "holds", "(III)Z"⟩
abbrev cX8_factOf : ByteArray := prog_10_method_20_code
def yX8_factOf : MethodName := ⟨RX8, "factOf", "(II)I"⟩
def RX9 : String := "CoarserOrders$Walks"
def TX9 : u_T := fun k => match k with
  | 0 => ("CoarserOrders$Walks", "near", "[I", true)
  | 1 => ("CoarserOrders$Walks", "steps", "[I", true)
  | _ => ("CoarserOrders$Walks", "queue", "[I", true)
def tyX9 : Nat → FieldType := fun k => match k with
  | 0 => .array .int
  | 1 => .array .int
  | _ => .array .int
abbrev wsX90 : List Cond := u_ws RX9 TX9 3
theorem nmX9 : ∀ a, a < 3 → ∀ b, b < 3 → a ≠ b → (TX9 a).2.1 ≠ (TX9 b).2.1 := by decide +kernel
theorem tyX9_ok : ∀ k, k < 3 → parseFieldDescriptor (TX9 k).2.2.1 = some (tyX9 k) := by decide +kernel
abbrev cX9_init : ByteArray := prog_11_method_1_code
def yX9_init : MethodName := ⟨RX9, "<init>", "()V"⟩
abbrev cX9_findNear : ByteArray := prog_11_method_2_code
def yX9_findNear : MethodName := ⟨RX9, "findNear", "(LCoarserOrders$Rows;JII)I"⟩
abbrev cX9_insertNear : ByteArray := prog_11_method_3_code
def yX9_insertNear : MethodName := ⟨RX9, "insertNear", "(II)V"⟩
abbrev cX9_stepsBetween : ByteArray := prog_11_method_4_code
def yX9_stepsBetween : MethodName := ⟨RX9, "stepsBetween", "(LCoarserOrders$Rows;JII)I"⟩
abbrev cX9_reach : ByteArray := prog_11_method_5_code
def yX9_reach : MethodName := ⟨RX9, "reach", "(III)I"⟩
abbrev cX9_stepsUp : ByteArray := prog_11_method_6_code
def yX9_stepsUp : MethodName := ⟨RX9, "stepsUp", "(LCoarserOrders$Rows;JZ)I"⟩
abbrev cX9_stepsUpTo : ByteArray := prog_11_method_7_code
def yX9_stepsUpTo : MethodName := ⟨RX9, "stepsUpTo", "(IZ)I"⟩
def RX10 : String := "CoarserOrders"
def TX10 : u_T := fun k => match k with
  | 0 => ("CoarserOrders", "tables", "[LCoarserOrders$Rows;", true)
  | 1 => ("CoarserOrders", "rows", "LCoarserOrders$Rows;", false)
  | 2 => ("CoarserOrders", "goneArcs", "J", false)
  | 3 => ("CoarserOrders", "lot", "I", false)
  | 4 => ("CoarserOrders", "makers", "LCoarserOrders$Makers;", true)
  | 5 => ("CoarserOrders", "tape", "LCoarserOrders$Tape;", true)
  | 6 => ("CoarserOrders", "walks", "LCoarserOrders$Walks;", true)
  | 7 => ("CoarserOrders", "listing", "LCoarserOrders$Listing;", true)
  | 8 => ("CoarserOrders", "stairs", "LCoarserOrders$Stairs;", true)
  | 9 => ("CoarserOrders", "sheets", "LCoarserOrders$Sheets;", true)
  | 10 => ("CoarserOrders", "shelves", "LCoarserOrders$Shelves;", true)
  | 11 => ("CoarserOrders", "acts", "LCoarserOrders$Acts;", true)
  | 12 => ("CoarserOrders", "lots", "[I", true)
  | 13 => ("CoarserOrders", "isKept", "Z", false)
  | 14 => ("CoarserOrders", "keptN", "I", false)
  | 15 => ("CoarserOrders", "keptGone", "J", false)
  | 16 => ("CoarserOrders", "keptLot", "I", false)
  | _ => ("CoarserOrders", "keptMakers", "LCoarserOrders$Makers;", true)
def tyX10 : Nat → FieldType := fun k => match k with
  | 0 => .array (.object "CoarserOrders$Rows")
  | 1 => .object "CoarserOrders$Rows"
  | 2 => .long
  | 3 => .int
  | 4 => .object "CoarserOrders$Makers"
  | 5 => .object "CoarserOrders$Tape"
  | 6 => .object "CoarserOrders$Walks"
  | 7 => .object "CoarserOrders$Listing"
  | 8 => .object "CoarserOrders$Stairs"
  | 9 => .object "CoarserOrders$Sheets"
  | 10 => .object "CoarserOrders$Shelves"
  | 11 => .object "CoarserOrders$Acts"
  | 12 => .array .int
  | 13 => .boolean
  | 14 => .int
  | 15 => .long
  | 16 => .int
  | _ => .object "CoarserOrders$Makers"
abbrev wsX100 : List Cond := u_ws RX10 TX10 18
theorem nmX10 : ∀ a, a < 18 → ∀ b, b < 18 → a ≠ b → (TX10 a).2.1 ≠ (TX10 b).2.1 := by decide +kernel
theorem tyX10_ok : ∀ k, k < 18 → parseFieldDescriptor (TX10 k).2.2.1 = some (tyX10 k) := by decide +kernel
abbrev cX10_init : ByteArray := prog_1_method_1_code
def yX10_init : MethodName := ⟨RX10, "<init>", "()V"⟩
abbrev cX10_size : ByteArray := prog_1_method_2_code
def yX10_size : MethodName := ⟨RX10, "size", "(I)I"⟩
abbrev cX10_resize : ByteArray := prog_1_method_3_code
def yX10_resize : MethodName := ⟨RX10, "resize", "(I)V"⟩
abbrev cX10_below : ByteArray := prog_1_method_4_code
def yX10_below : MethodName := ⟨RX10, "below", "(II)I"⟩
abbrev cX10_meet : ByteArray := prog_1_method_5_code
def yX10_meet : MethodName := ⟨RX10, "meet", "(II)I"⟩
abbrev cX10_join : ByteArray := prog_1_method_6_code
def yX10_join : MethodName := ⟨RX10, "join", "(II)I"⟩
abbrev cX10_of : ByteArray := prog_1_method_7_code
def yX10_of : MethodName := ⟨RX10, "of", "(II)I"⟩
abbrev cX10_rowAt : ByteArray := prog_1_method_8_code
def yX10_rowAt : MethodName := ⟨RX10, "rowAt", "(I)I"⟩
abbrev cX10_jump : ByteArray := prog_1_method_9_code
def yX10_jump : MethodName := ⟨RX10, "jump", "(III)I"⟩
abbrev cX10_isArc : ByteArray := prog_1_method_10_code
def yX10_isArc : MethodName := ⟨RX10, "isArc", "(I)Z"⟩
abbrev cX10_arc : ByteArray := prog_1_method_11_code
def yX10_arc : MethodName := ⟨RX10, "arc", "(II)I"⟩
abbrev cX10_arcIs : ByteArray := prog_1_method_12_code
def yX10_arcIs : MethodName := ⟨RX10, "arcIs", "(II)I"⟩
abbrev cX10_forces : ByteArray := prog_1_method_13_code
def yX10_forces : MethodName := ⟨RX10, "forces", "(II)I"⟩
abbrev cX10_diagram : ByteArray := prog_1_method_14_code
def yX10_diagram : MethodName := ⟨RX10, "diagram", "(I)J"⟩
abbrev cX10_rowOf : ByteArray := prog_1_method_15_code
def yX10_rowOf : MethodName := ⟨RX10, "rowOf", "(J)I"⟩
abbrev cX10_gone : ByteArray := prog_1_method_16_code
def yX10_gone : MethodName := ⟨RX10, "gone", "()J"⟩
abbrev cX10_contract : ByteArray := prog_1_method_17_code
def yX10_contract : MethodName := ⟨RX10, "contract", "(I)I"⟩
abbrev cX10_restore : ByteArray := prog_1_method_18_code
def yX10_restore : MethodName := ⟨RX10, "restore", "(I)I"⟩
abbrev cX10_collapse : ByteArray := prog_1_method_19_code
def yX10_collapse : MethodName := ⟨RX10, "collapse", "(II)I"⟩
abbrev cX10_maker : ByteArray := prog_1_method_20_code
def yX10_maker : MethodName := ⟨RX10, "maker", "(II)I"⟩
abbrev cX10_makerIs : ByteArray := prog_1_method_21_code
def yX10_makerIs : MethodName := ⟨RX10, "makerIs", "(II)I"⟩
abbrev cX10_takenBy : ByteArray := prog_1_method_22_code
def yX10_takenBy : MethodName := ⟨RX10, "takenBy", "(I)J"⟩
abbrev cX10_make : ByteArray := prog_1_method_23_code
def yX10_make : MethodName := ⟨RX10, "make", "(II)I"⟩
abbrev cX10_come : ByteArray := prog_1_method_24_code
def yX10_come : MethodName := ⟨RX10, "come", "(JI)I"⟩
abbrev cX10_feed : ByteArray := prog_1_method_25_code
def yX10_feed : MethodName := ⟨RX10, "feed", "(JI)I"⟩
abbrev cX10_text : ByteArray := prog_1_method_26_code
def yX10_text : MethodName := ⟨RX10, "text", "(I)I"⟩
abbrev cX10_clear : ByteArray := prog_1_method_27_code
def yX10_clear : MethodName := ⟨RX10, "clear", "()I"⟩
abbrev cX10_alike : ByteArray := prog_1_method_28_code
def yX10_alike : MethodName := ⟨RX10, "alike", "(II)I"⟩
abbrev cX10_classAt : ByteArray := prog_1_method_29_code
def yX10_classAt : MethodName := ⟨RX10, "classAt", "(I)I"⟩
abbrev cX10_classes : ByteArray := prog_1_method_30_code
def yX10_classes : MethodName := ⟨RX10, "classes", "(III)I"⟩
abbrev cX10_rotations : ByteArray := prog_1_method_31_code
def yX10_rotations : MethodName := ⟨RX10, "rotations", "(II)I"⟩
abbrev cX10_rotate : ByteArray := prog_1_method_32_code
def yX10_rotate : MethodName := ⟨RX10, "rotate", "(III)I"⟩
abbrev cX10_apart : ByteArray := prog_1_method_33_code
def yX10_apart : MethodName := ⟨RX10, "apart", "(II)I"⟩
abbrev cX10_wayUp : ByteArray := prog_1_method_34_code
def yX10_wayUp : MethodName := ⟨RX10, "wayUp", "(I)I"⟩
abbrev cX10_listed : ByteArray := prog_1_method_35_code
def yX10_listed : MethodName := ⟨RX10, "listed", "(I)I"⟩
abbrev cX10_closed : ByteArray := prog_1_method_36_code
def yX10_closed : MethodName := ⟨RX10, "closed", "(I)I"⟩
abbrev cX10_whatIs : ByteArray := prog_1_method_37_code
def yX10_whatIs : MethodName := ⟨RX10, "whatIs", "(II)I"⟩
abbrev cX10_fitsThrees : ByteArray := prog_1_method_38_code
def yX10_fitsThrees : MethodName := ⟨RX10, "fitsThrees", "(IJ)Z"⟩
abbrev cX10_seed : ByteArray := prog_1_method_39_code
def yX10_seed : MethodName := ⟨RX10, "seed", "(I)I"⟩
abbrev cX10_drawn : ByteArray := prog_1_method_40_code
def yX10_drawn : MethodName := ⟨RX10, "drawn", "(I)I"⟩
abbrev cX10_drawRow : ByteArray := prog_1_method_41_code
def yX10_drawRow : MethodName := ⟨RX10, "drawRow", "()I"⟩
abbrev cX10_prove : ByteArray := prog_1_method_42_code
def yX10_prove : MethodName := ⟨RX10, "prove", "(I)I"⟩
abbrev cX10_step : ByteArray := prog_1_method_43_code
def yX10_step : MethodName := ⟨RX10, "step", "(II)I"⟩
abbrev cX10_alterStep : ByteArray := prog_1_method_44_code
def yX10_alterStep : MethodName := ⟨RX10, "alterStep", "(III)I"⟩
abbrev cX10_judge : ByteArray := prog_1_method_45_code
def yX10_judge : MethodName := ⟨RX10, "judge", "(I)I"⟩
abbrev cX10_sheet : ByteArray := prog_1_method_46_code
def yX10_sheet : MethodName := ⟨RX10, "sheet", "(III)I"⟩
abbrev cX10_put : ByteArray := prog_1_method_47_code
def yX10_put : MethodName := ⟨RX10, "put", "(IIJ)I"⟩
abbrev cX10_item : ByteArray := prog_1_method_48_code
def yX10_item : MethodName := ⟨RX10, "item", "(III)I"⟩
abbrev cX10_move : ByteArray := prog_1_method_49_code
def yX10_move : MethodName := ⟨RX10, "move", "(IIIII)I"⟩
abbrev cX10_rowFrom : ByteArray := prog_1_method_50_code
def yX10_rowFrom : MethodName := ⟨RX10, "rowFrom", "(II)I"⟩
abbrev cX10_shelf : ByteArray := prog_1_method_51_code
def yX10_shelf : MethodName := ⟨RX10, "shelf", "(III)I"⟩
abbrev cX10_heldOn : ByteArray := prog_1_method_52_code
def yX10_heldOn : MethodName := ⟨RX10, "heldOn", "(I)I"⟩
abbrev cX10_taken : ByteArray := prog_1_method_53_code
def yX10_taken : MethodName := ⟨RX10, "taken", "(II)I"⟩
abbrev cX10_act : ByteArray := prog_1_method_54_code
def yX10_act : MethodName := ⟨RX10, "act", "(III)I"⟩
abbrev cX10_trace : ByteArray := prog_1_method_55_code
def yX10_trace : MethodName := ⟨RX10, "trace", "(I)I"⟩
abbrev cX10_many : ByteArray := prog_1_method_56_code
def yX10_many : MethodName := ⟨RX10, "many", "(I)I"⟩
abbrev cX10_keep : ByteArray := prog_1_method_57_code
def yX10_keep : MethodName := ⟨RX10, "keep", "()I"⟩
abbrev cX10_again : ByteArray := prog_1_method_58_code
def yX10_again : MethodName := ⟨RX10, "again", "()I"⟩
def RX11 : String := "CoarserOrdersModel"
def TX11 : u_T := fun k => match k with
  | 0 => ("CoarserOrdersModel", "n", "I", false)
  | 1 => ("CoarserOrdersModel", "z", "I", false)
  | 2 => ("CoarserOrdersModel", "makers", "I", false)
  | 3 => ("CoarserOrdersModel", "gone", "J", false)
  | 4 => ("CoarserOrdersModel", "kinds", "[I", true)
  | 5 => ("CoarserOrdersModel", "ms", "[I", true)
  | 6 => ("CoarserOrdersModel", "keptN", "I", false)
  | 7 => ("CoarserOrdersModel", "keptZ", "I", false)
  | 8 => ("CoarserOrdersModel", "keptMakers", "I", false)
  | 9 => ("CoarserOrdersModel", "keptGone", "J", false)
  | 10 => ("CoarserOrdersModel", "keptKinds", "[I", true)
  | 11 => ("CoarserOrdersModel", "keptMs", "[I", true)
  | 12 => ("CoarserOrdersModel", "isKept", "Z", false)
  | 13 => ("CoarserOrdersModel", "low", "[I", true)
  | 14 => ("CoarserOrdersModel", "high", "[I", true)
  | 15 => ("CoarserOrdersModel", "lefts", "[I", true)
  | 16 => ("CoarserOrdersModel", "forces", "[J", true)
  | 17 => ("CoarserOrdersModel", "arcs", "I", false)
  | 18 => ("CoarserOrdersModel", "power", "[I", true)
  | 19 => ("CoarserOrdersModel", "ways", "[I", true)
  | 20 => ("CoarserOrdersModel", "tape", "[I", true)
  | 21 => ("CoarserOrdersModel", "code", "[I", true)
  | 22 => ("CoarserOrdersModel", "stack", "[I", true)
  | 23 => ("CoarserOrdersModel", "taped", "I", false)
  | 24 => ("CoarserOrdersModel", "from", "I", false)
  | 25 => ("CoarserOrdersModel", "to", "I", false)
  | 26 => ("CoarserOrdersModel", "codes", "I", false)
  | 27 => ("CoarserOrdersModel", "open", "I", false)
  | 28 => ("CoarserOrdersModel", "isWrong", "Z", false)
  | 29 => ("CoarserOrdersModel", "line", "[I", true)
  | 30 => ("CoarserOrdersModel", "far", "[I", true)
  | 31 => ("CoarserOrdersModel", "fewest", "[I", true)
  | 32 => ("CoarserOrdersModel", "queue", "[I", true)
  | 33 => ("CoarserOrdersModel", "list", "[I", true)
  | 34 => ("CoarserOrdersModel", "isListed", "[Z", true)
  | 35 => ("CoarserOrdersModel", "steps", "[I", true)
  | 36 => ("CoarserOrdersModel", "stepped", "I", false)
  | 37 => ("CoarserOrdersModel", "sorts", "[I", true)
  | 38 => ("CoarserOrdersModel", "sizes", "[I", true)
  | 39 => ("CoarserOrdersModel", "cells", "[J", true)
  | 40 => ("CoarserOrdersModel", "aside", "[J", true)
  | 41 => ("CoarserOrdersModel", "held", "[I", true)
  | 42 => ("CoarserOrdersModel", "thing", "[I", true)
  | 43 => ("CoarserOrdersModel", "length", "[I", true)
  | 44 => ("CoarserOrdersModel", "trace", "[I", true)
  | 45 => ("CoarserOrdersModel", "traced", "I", false)
  | 46 => ("CoarserOrdersModel", "kind", "I", false)
  | 47 => ("CoarserOrdersModel", "number", "I", false)
  | 48 => ("CoarserOrdersModel", "m", "I", false)
  | _ => ("CoarserOrdersModel", "isParted", "Z", false)
def tyX11 : Nat → FieldType := fun k => match k with
  | 0 => .int
  | 1 => .int
  | 2 => .int
  | 3 => .long
  | 4 => .array .int
  | 5 => .array .int
  | 6 => .int
  | 7 => .int
  | 8 => .int
  | 9 => .long
  | 10 => .array .int
  | 11 => .array .int
  | 12 => .boolean
  | 13 => .array .int
  | 14 => .array .int
  | 15 => .array .int
  | 16 => .array .long
  | 17 => .int
  | 18 => .array .int
  | 19 => .array .int
  | 20 => .array .int
  | 21 => .array .int
  | 22 => .array .int
  | 23 => .int
  | 24 => .int
  | 25 => .int
  | 26 => .int
  | 27 => .int
  | 28 => .boolean
  | 29 => .array .int
  | 30 => .array .int
  | 31 => .array .int
  | 32 => .array .int
  | 33 => .array .int
  | 34 => .array .boolean
  | 35 => .array .int
  | 36 => .int
  | 37 => .array .int
  | 38 => .array .int
  | 39 => .array .long
  | 40 => .array .long
  | 41 => .array .int
  | 42 => .array .int
  | 43 => .array .int
  | 44 => .array .int
  | 45 => .int
  | 46 => .int
  | 47 => .int
  | 48 => .int
  | _ => .boolean
abbrev wsX110 : List Cond := u_ws RX11 TX11 50
theorem nmX11 : ∀ a, a < 50 → ∀ b, b < 50 → a ≠ b → (TX11 a).2.1 ≠ (TX11 b).2.1 := by decide +kernel
theorem tyX11_ok : ∀ k, k < 50 → parseFieldDescriptor (TX11 k).2.2.1 = some (tyX11 k) := by decide +kernel
abbrev cX11_init : ByteArray := prog_13_method_1_code
def yX11_init : MethodName := ⟨RX11, "<init>", "()V"⟩
abbrev cX11_in : ByteArray := prog_13_method_2_code
def yX11_in : MethodName := ⟨RX11, "in", "(JJJ)Z"⟩
abbrev cX11_has : ByteArray := prog_13_method_3_code
def yX11_has : MethodName := ⟨RX11, "has", "(JI)Z"⟩
abbrev cX11_ones : ByteArray := prog_13_method_4_code
def yX11_ones : MethodName := ⟨RX11, "ones", "(J)I"⟩
abbrev cX11_digit : ByteArray := prog_13_method_5_code
def yX11_digit : MethodName := ⟨RX11, "digit", "(II)I"⟩
abbrev cX11_isRow : ByteArray := prog_13_method_6_code
def yX11_isRow : MethodName := ⟨RX11, "isRow", "(I)Z"⟩
abbrev cX11_areRows : ByteArray := prog_13_method_7_code
def yX11_areRows : MethodName := ⟨RX11, "areRows", "(II)Z"⟩
abbrev cX11_swapAt : ByteArray := prog_13_method_8_code
def yX11_swapAt : MethodName := ⟨RX11, "swapAt", "(II)I"⟩
abbrev cX11_isDrop : ByteArray := prog_13_method_9_code
def yX11_isDrop : MethodName := ⟨RX11, "isDrop", "(II)Z"⟩
abbrev cX11_swapped : ByteArray := prog_13_method_10_code
def yX11_swapped : MethodName := ⟨RX11, "swapped", "(I)I"⟩
abbrev cX11_isBelow : ByteArray := prog_13_method_11_code
def yX11_isBelow : MethodName := ⟨RX11, "isBelow", "(II)Z"⟩
abbrev cX11_rowBy : ByteArray := prog_13_method_12_code
def yX11_rowBy : MethodName := ⟨RX11, "rowBy", "(I)I"⟩
abbrev cX11_rank : ByteArray := prog_13_method_13_code
def yX11_rank : MethodName := ⟨RX11, "rank", "(I)I"⟩
abbrev cX11_meetOf : ByteArray := prog_13_method_14_code
def yX11_meetOf : MethodName := ⟨RX11, "meetOf", "(II)I"⟩
abbrev cX11_joinOf : ByteArray := prog_13_method_15_code
def yX11_joinOf : MethodName := ⟨RX11, "joinOf", "(II)I"⟩
abbrev cX11_size : ByteArray := prog_13_method_16_code
def yX11_size : MethodName := ⟨RX11, "size", "(I)I"⟩
abbrev cX11_below : ByteArray := prog_13_method_17_code
def yX11_below : MethodName := ⟨RX11, "below", "(II)I"⟩
abbrev cX11_meet : ByteArray := prog_13_method_18_code
def yX11_meet : MethodName := ⟨RX11, "meet", "(II)I"⟩
abbrev cX11_join : ByteArray := prog_13_method_19_code
def yX11_join : MethodName := ⟨RX11, "join", "(II)I"⟩
abbrev cX11_drops : ByteArray := prog_13_method_20_code
def yX11_drops : MethodName := ⟨RX11, "drops", "(I)I"⟩
abbrev cX11_turned : ByteArray := prog_13_method_21_code
def yX11_turned : MethodName := ⟨RX11, "turned", "(I)I"⟩
abbrev cX11_of : ByteArray := prog_13_method_22_code
def yX11_of : MethodName := ⟨RX11, "of", "(II)I"⟩
abbrev cX11_rowAt : ByteArray := prog_13_method_23_code
def yX11_rowAt : MethodName := ⟨RX11, "rowAt", "(I)I"⟩
abbrev cX11_placeOf : ByteArray := prog_13_method_24_code
def yX11_placeOf : MethodName := ⟨RX11, "placeOf", "(II)I"⟩
abbrev cX11_jumped : ByteArray := prog_13_method_25_code
def yX11_jumped : MethodName := ⟨RX11, "jumped", "(III)I"⟩
abbrev cX11_jump : ByteArray := prog_13_method_26_code
def yX11_jump : MethodName := ⟨RX11, "jump", "(III)I"⟩
abbrev cX11_tellsArcs : ByteArray := prog_13_method_27_code
def yX11_tellsArcs : MethodName := ⟨RX11, "tellsArcs", "()V"⟩
abbrev cX11_isLeft : ByteArray := prog_13_method_28_code
def yX11_isLeft : MethodName := ⟨RX11, "isLeft", "(II)Z"⟩
abbrev cX11_isForcing : ByteArray := prog_13_method_29_code
def yX11_isForcing : MethodName := ⟨RX11, "isForcing", "(II)Z"⟩
abbrev cX11_isArc : ByteArray := prog_13_method_30_code
def yX11_isArc : MethodName := ⟨RX11, "isArc", "(I)Z"⟩
abbrev cX11_arcAt : ByteArray := prog_13_method_31_code
def yX11_arcAt : MethodName := ⟨RX11, "arcAt", "(II)I"⟩
abbrev cX11_arc : ByteArray := prog_13_method_32_code
def yX11_arc : MethodName := ⟨RX11, "arc", "(II)I"⟩
abbrev cX11_diagramOf : ByteArray := prog_13_method_33_code
def yX11_diagramOf : MethodName := ⟨RX11, "diagramOf", "(I)J"⟩
abbrev cX11_closedBy : ByteArray := prog_13_method_34_code
def yX11_closedBy : MethodName := ⟨RX11, "closedBy", "(J)J"⟩
abbrev cX11_forcers : ByteArray := prog_13_method_35_code
def yX11_forcers : MethodName := ⟨RX11, "forcers", "(I)J"⟩
abbrev cX11_leastWith : ByteArray := prog_13_method_36_code
def yX11_leastWith : MethodName := ⟨RX11, "leastWith", "(I)I"⟩
abbrev cX11_arcIs : ByteArray := prog_13_method_37_code
def yX11_arcIs : MethodName := ⟨RX11, "arcIs", "(II)I"⟩
abbrev cX11_forces : ByteArray := prog_13_method_38_code
def yX11_forces : MethodName := ⟨RX11, "forces", "(II)I"⟩
abbrev cX11_diagram : ByteArray := prog_13_method_39_code
def yX11_diagram : MethodName := ⟨RX11, "diagram", "(I)J"⟩
abbrev cX11_rowOf : ByteArray := prog_13_method_40_code
def yX11_rowOf : MethodName := ⟨RX11, "rowOf", "(J)I"⟩
abbrev cX11_gone : ByteArray := prog_13_method_41_code
def yX11_gone : MethodName := ⟨RX11, "gone", "()J"⟩
abbrev cX11_contract : ByteArray := prog_13_method_42_code
def yX11_contract : MethodName := ⟨RX11, "contract", "(I)I"⟩
abbrev cX11_restore : ByteArray := prog_13_method_43_code
def yX11_restore : MethodName := ⟨RX11, "restore", "(I)I"⟩
abbrev cX11_collapse : ByteArray := prog_13_method_44_code
def yX11_collapse : MethodName := ⟨RX11, "collapse", "(II)I"⟩
abbrev cX11_isUnder : ByteArray := prog_13_method_45_code
def yX11_isUnder : MethodName := ⟨RX11, "isUnder", "(II)Z"⟩
abbrev cX11_isMaker : ByteArray := prog_13_method_46_code
def yX11_isMaker : MethodName := ⟨RX11, "isMaker", "(I)Z"⟩
abbrev cX11_takes : ByteArray := prog_13_method_47_code
def yX11_takes : MethodName := ⟨RX11, "takes", "(III)Z"⟩
abbrev cX11_isSigned : ByteArray := prog_13_method_48_code
def yX11_isSigned : MethodName := ⟨RX11, "isSigned", "(II)Z"⟩
abbrev cX11_takenBy : ByteArray := prog_13_method_49_code
def yX11_takenBy : MethodName := ⟨RX11, "takenBy", "(II)J"⟩
abbrev cX11_comes : ByteArray := prog_13_method_50_code
def yX11_comes : MethodName := ⟨RX11, "comes", "(JI)I"⟩
abbrev cX11_maker : ByteArray := prog_13_method_51_code
def yX11_maker : MethodName := ⟨RX11, "maker", "(II)I"⟩
abbrev cX11_makerIs : ByteArray := prog_13_method_52_code
def yX11_makerIs : MethodName := ⟨RX11, "makerIs", "(II)I"⟩
abbrev cX11_make : ByteArray := prog_13_method_53_code
def yX11_make : MethodName := ⟨RX11, "make", "(II)I"⟩
abbrev cX11_feed : ByteArray := prog_13_method_54_code
def yX11_feed : MethodName := ⟨RX11, "feed", "(JI)I"⟩
abbrev cX11_isDigit : ByteArray := prog_13_method_55_code
def yX11_isDigit : MethodName := ⟨RX11, "isDigit", "(I)Z"⟩
abbrev cX11_isLetter : ByteArray := prog_13_method_56_code
def yX11_isLetter : MethodName := ⟨RX11, "isLetter", "(I)Z"⟩
abbrev cX11_next : ByteArray := prog_13_method_57_code
def yX11_next : MethodName := ⟨RX11, "next", "()V"⟩
abbrev cX11_is : ByteArray := prog_13_method_58_code
def yX11_is : MethodName := ⟨RX11, "is", "(Ljava/lang/String;)Z"⟩
abbrev cX11_emits : ByteArray := prog_13_method_59_code
def yX11_emits : MethodName := ⟨RX11, "emits", "(I)V"⟩
abbrev cX11_factHere : ByteArray := prog_13_method_60_code
def yX11_factHere : MethodName := ⟨RX11, "factHere", "()I"⟩
abbrev cX11_value : ByteArray := prog_13_method_61_code
def yX11_value : MethodName := ⟨RX11, "value", "()V"⟩
abbrev cX11_compared : ByteArray := prog_13_method_62_code
def yX11_compared : MethodName := ⟨RX11, "compared", "()V"⟩
abbrev cX11_one : ByteArray := prog_13_method_63_code
def yX11_one : MethodName := ⟨RX11, "one", "()V"⟩
abbrev cX11_all : ByteArray := prog_13_method_64_code
def yX11_all : MethodName := ⟨RX11, "all", "()V"⟩
abbrev cX11_cond : ByteArray := prog_13_method_65_code
def yX11_cond : MethodName := ⟨RX11, "cond", "()V"⟩
abbrev cX11_fact : ByteArray := prog_13_method_66_code
def yX11_fact : MethodName := ⟨RX11, "fact", "(II)I"⟩
abbrev cX11_isSo : ByteArray := prog_13_method_67_code
def yX11_isSo : MethodName := ⟨RX11, "isSo", "(III)Z"⟩
abbrev cX11_holds : ByteArray := prog_13_method_68_code
def yX11_holds : MethodName := ⟨RX11, "holds", "(I)Z"⟩
abbrev cX11_text : ByteArray := prog_13_method_69_code
def yX11_text : MethodName := ⟨RX11, "text", "(I)I"⟩
abbrev cX11_clear : ByteArray := prog_13_method_70_code
def yX11_clear : MethodName := ⟨RX11, "clear", "()I"⟩
abbrev cX11_placeIn : ByteArray := prog_13_method_71_code
def yX11_placeIn : MethodName := ⟨RX11, "placeIn", "(IZJ)I"⟩
abbrev cX11_goes : ByteArray := prog_13_method_72_code
def yX11_goes : MethodName := ⟨RX11, "goes", "(IZJ)I"⟩
abbrev cX11_leastOf : ByteArray := prog_13_method_73_code
def yX11_leastOf : MethodName := ⟨RX11, "leastOf", "(I)I"⟩
abbrev cX11_greatestOf : ByteArray := prog_13_method_74_code
def yX11_greatestOf : MethodName := ⟨RX11, "greatestOf", "(I)I"⟩
abbrev cX11_isLeast : ByteArray := prog_13_method_75_code
def yX11_isLeast : MethodName := ⟨RX11, "isLeast", "(I)Z"⟩
abbrev cX11_manyAlike : ByteArray := prog_13_method_76_code
def yX11_manyAlike : MethodName := ⟨RX11, "manyAlike", "(I)I"⟩
abbrev cX11_alike : ByteArray := prog_13_method_77_code
def yX11_alike : MethodName := ⟨RX11, "alike", "(II)I"⟩
abbrev cX11_classAt : ByteArray := prog_13_method_78_code
def yX11_classAt : MethodName := ⟨RX11, "classAt", "(I)I"⟩
abbrev cX11_classes : ByteArray := prog_13_method_79_code
def yX11_classes : MethodName := ⟨RX11, "classes", "(III)I"⟩
abbrev cX11_turnsTo : ByteArray := prog_13_method_80_code
def yX11_turnsTo : MethodName := ⟨RX11, "turnsTo", "(II)I"⟩
abbrev cX11_rotations : ByteArray := prog_13_method_81_code
def yX11_rotations : MethodName := ⟨RX11, "rotations", "(II)I"⟩
abbrev cX11_rotate : ByteArray := prog_13_method_82_code
def yX11_rotate : MethodName := ⟨RX11, "rotate", "(III)I"⟩
abbrev cX11_begins : ByteArray := prog_13_method_83_code
def yX11_begins : MethodName := ⟨RX11, "begins", "()V"⟩
abbrev cX11_apartOf : ByteArray := prog_13_method_84_code
def yX11_apartOf : MethodName := ⟨RX11, "apartOf", "(II)I"⟩
abbrev cX11_apart : ByteArray := prog_13_method_85_code
def yX11_apart : MethodName := ⟨RX11, "apart", "(II)I"⟩
abbrev cX11_climbs : ByteArray := prog_13_method_86_code
def yX11_climbs : MethodName := ⟨RX11, "climbs", "()V"⟩
abbrev cX11_wayUp : ByteArray := prog_13_method_87_code
def yX11_wayUp : MethodName := ⟨RX11, "wayUp", "(I)I"⟩
abbrev cX11_nearest : ByteArray := prog_13_method_88_code
def yX11_nearest : MethodName := ⟨RX11, "nearest", "(III)I"⟩
abbrev cX11_nextBehind : ByteArray := prog_13_method_89_code
def yX11_nextBehind : MethodName := ⟨RX11, "nextBehind", "(I)I"⟩
abbrev cX11_listed : ByteArray := prog_13_method_90_code
def yX11_listed : MethodName := ⟨RX11, "listed", "(I)I"⟩
abbrev cX11_closedFrom : ByteArray := prog_13_method_91_code
def yX11_closedFrom : MethodName := ⟨RX11, "closedFrom", "(IJJ)I"⟩
abbrev cX11_closed : ByteArray := prog_13_method_92_code
def yX11_closed : MethodName := ⟨RX11, "closed", "(I)I"⟩
abbrev cX11_areThrees : ByteArray := prog_13_method_93_code
def yX11_areThrees : MethodName := ⟨RX11, "areThrees", "(I)Z"⟩
abbrev cX11_fits : ByteArray := prog_13_method_94_code
def yX11_fits : MethodName := ⟨RX11, "fits", "(IJ)Z"⟩
abbrev cX11_whatIs : ByteArray := prog_13_method_95_code
def yX11_whatIs : MethodName := ⟨RX11, "whatIs", "(II)I"⟩
abbrev cX11_seed : ByteArray := prog_13_method_96_code
def yX11_seed : MethodName := ⟨RX11, "seed", "(I)I"⟩
abbrev cX11_rowByLot : ByteArray := prog_13_method_97_code
def yX11_rowByLot : MethodName := ⟨RX11, "rowByLot", "()I"⟩
abbrev cX11_drawn : ByteArray := prog_13_method_98_code
def yX11_drawn : MethodName := ⟨RX11, "drawn", "(I)I"⟩
abbrev cX11_prove : ByteArray := prog_13_method_99_code
def yX11_prove : MethodName := ⟨RX11, "prove", "(I)I"⟩
abbrev cX11_isStep : ByteArray := prog_13_method_100_code
def yX11_isStep : MethodName := ⟨RX11, "isStep", "(II)Z"⟩
abbrev cX11_step : ByteArray := prog_13_method_101_code
def yX11_step : MethodName := ⟨RX11, "step", "(II)I"⟩
abbrev cX11_alterStep : ByteArray := prog_13_method_102_code
def yX11_alterStep : MethodName := ⟨RX11, "alterStep", "(III)I"⟩
abbrev cX11_isRight : ByteArray := prog_13_method_103_code
def yX11_isRight : MethodName := ⟨RX11, "isRight", "(II)Z"⟩
abbrev cX11_judge : ByteArray := prog_13_method_104_code
def yX11_judge : MethodName := ⟨RX11, "judge", "(I)I"⟩
abbrev cX11_isSheet : ByteArray := prog_13_method_105_code
def yX11_isSheet : MethodName := ⟨RX11, "isSheet", "(I)Z"⟩
abbrev cX11_sheet : ByteArray := prog_13_method_106_code
def yX11_sheet : MethodName := ⟨RX11, "sheet", "(III)I"⟩
abbrev cX11_narrowed : ByteArray := prog_13_method_107_code
def yX11_narrowed : MethodName := ⟨RX11, "narrowed", "(IJ)J"⟩
abbrev cX11_put : ByteArray := prog_13_method_108_code
def yX11_put : MethodName := ⟨RX11, "put", "(IIJ)I"⟩
abbrev cX11_item : ByteArray := prog_13_method_109_code
def yX11_item : MethodName := ⟨RX11, "item", "(III)I"⟩
abbrev cX11_move : ByteArray := prog_13_method_110_code
def yX11_move : MethodName := ⟨RX11, "move", "(IIIII)I"⟩
abbrev cX11_rowFrom : ByteArray := prog_13_method_111_code
def yX11_rowFrom : MethodName := ⟨RX11, "rowFrom", "(II)I"⟩
abbrev cX11_isShelf : ByteArray := prog_13_method_112_code
def yX11_isShelf : MethodName := ⟨RX11, "isShelf", "(I)Z"⟩
abbrev cX11_shelf : ByteArray := prog_13_method_113_code
def yX11_shelf : MethodName := ⟨RX11, "shelf", "(III)I"⟩
abbrev cX11_heldBy : ByteArray := prog_13_method_114_code
def yX11_heldBy : MethodName := ⟨RX11, "heldBy", "(I)I"⟩
abbrev cX11_taken : ByteArray := prog_13_method_115_code
def yX11_taken : MethodName := ⟨RX11, "taken", "(II)I"⟩
abbrev cX11_ran : ByteArray := prog_13_method_116_code
def yX11_ran : MethodName := ⟨RX11, "ran", "(I)V"⟩
abbrev cX11_plainTurns : ByteArray := prog_13_method_117_code
def yX11_plainTurns : MethodName := ⟨RX11, "plainTurns", "(I)I"⟩
abbrev cX11_leftyTurns : ByteArray := prog_13_method_118_code
def yX11_leftyTurns : MethodName := ⟨RX11, "leftyTurns", "(I)I"⟩
abbrev cX11_turns : ByteArray := prog_13_method_119_code
def yX11_turns : MethodName := ⟨RX11, "turns", "(I)I"⟩
abbrev cX11_plainBends : ByteArray := prog_13_method_120_code
def yX11_plainBends : MethodName := ⟨RX11, "plainBends", "(I)I"⟩
abbrev cX11_bends : ByteArray := prog_13_method_121_code
def yX11_bends : MethodName := ⟨RX11, "bends", "(I)I"⟩
abbrev cX11_plainParts : ByteArray := prog_13_method_122_code
def yX11_plainParts : MethodName := ⟨RX11, "plainParts", "(I)I"⟩
abbrev cX11_longerParts : ByteArray := prog_13_method_123_code
def yX11_longerParts : MethodName := ⟨RX11, "longerParts", "(I)I"⟩
abbrev cX11_parts : ByteArray := prog_13_method_124_code
def yX11_parts : MethodName := ⟨RX11, "parts", "(I)I"⟩
abbrev cX11_plainJoins : ByteArray := prog_13_method_125_code
def yX11_plainJoins : MethodName := ⟨RX11, "plainJoins", "(I)I"⟩
abbrev cX11_joins : ByteArray := prog_13_method_126_code
def yX11_joins : MethodName := ⟨RX11, "joins", "(I)I"⟩
abbrev cX11_act : ByteArray := prog_13_method_127_code
def yX11_act : MethodName := ⟨RX11, "act", "(III)I"⟩
abbrev cX11_trace : ByteArray := prog_13_method_128_code
def yX11_trace : MethodName := ⟨RX11, "trace", "(I)I"⟩
abbrev cX11_manyClasses : ByteArray := prog_13_method_129_code
def yX11_manyClasses : MethodName := ⟨RX11, "manyClasses", "(Z)I"⟩
abbrev cX11_many : ByteArray := prog_13_method_130_code
def yX11_many : MethodName := ⟨RX11, "many", "(I)I"⟩
abbrev cX11_keep : ByteArray := prog_13_method_131_code
def yX11_keep : MethodName := ⟨RX11, "keep", "()I"⟩
abbrev cX11_again : ByteArray := prog_13_method_132_code
def yX11_again : MethodName := ⟨RX11, "again", "()I"⟩
def RJx145de : String := "java/io/Serializable"
def TJx145de : u_T := fun k => match k with
  | _ => ("", "", "", false)
def tyJx145de : Nat → FieldType := fun k => match k with
  | _ => .int
abbrev wsJx145de0 : List Cond := u_ws RJx145de TJx145de 0
theorem nmJx145de : ∀ a, a < 0 → ∀ b, b < 0 → a ≠ b → (TJx145de a).2.1 ≠ (TJx145de b).2.1 := by decide +kernel
theorem tyJx145de_ok : ∀ k, k < 0 → parseFieldDescriptor (TJx145de k).2.2.1 = some (tyJx145de k) := by decide +kernel
def RJx9f9b0 : String := "java/lang/CharSequence"
def TJx9f9b0 : u_T := fun k => match k with
  | _ => ("", "", "", false)
def tyJx9f9b0 : Nat → FieldType := fun k => match k with
  | _ => .int
abbrev wsJx9f9b00 : List Cond := u_ws RJx9f9b0 TJx9f9b0 0
theorem nmJx9f9b0 : ∀ a, a < 0 → ∀ b, b < 0 → a ≠ b → (TJx9f9b0 a).2.1 ≠ (TJx9f9b0 b).2.1 := by decide +kernel
theorem tyJx9f9b0_ok : ∀ k, k < 0 → parseFieldDescriptor (TJx9f9b0 k).2.2.1 = some (tyJx9f9b0 k) := by decide +kernel
def RJxb160c : String := "java/lang/Comparable"
def TJxb160c : u_T := fun k => match k with
  | _ => ("", "", "", false)
def tyJxb160c : Nat → FieldType := fun k => match k with
  | _ => .int
abbrev wsJxb160c0 : List Cond := u_ws RJxb160c TJxb160c 0
theorem nmJxb160c : ∀ a, a < 0 → ∀ b, b < 0 → a ≠ b → (TJxb160c a).2.1 ≠ (TJxb160c b).2.1 := by decide +kernel
theorem tyJxb160c_ok : ∀ k, k < 0 → parseFieldDescriptor (TJxb160c k).2.2.1 = some (tyJxb160c k) := by decide +kernel
def RJ6 : String := "java/lang/Integer"
def TJ6 : u_T := fun k => match k with
  | _ => ("", "", "", false)
def tyJ6 : Nat → FieldType := fun k => match k with
  | _ => .int
abbrev wsJ60 : List Cond := u_ws RJ6 TJ6 0
theorem nmJ6 : ∀ a, a < 0 → ∀ b, b < 0 → a ≠ b → (TJ6 a).2.1 ≠ (TJ6 b).2.1 := by decide +kernel
theorem tyJ6_ok : ∀ k, k < 0 → parseFieldDescriptor (TJ6 k).2.2.1 = some (tyJ6 k) := by decide +kernel
abbrev cJ6_numberOfTrailingZeros_0f7a4 : ByteArray := prog_14_method_48_code
def yJ6_numberOfTrailingZeros_0f7a4 : MethodName := ⟨RJ6, "numberOfTrailingZeros", "(I)I"⟩
abbrev cJ6_bitCount_0f7a4 : ByteArray := prog_14_method_49_code
def yJ6_bitCount_0f7a4 : MethodName := ⟨RJ6, "bitCount", "(I)I"⟩
def RJ13 : String := "java/lang/Long"
def TJ13 : u_T := fun k => match k with
  | _ => ("", "", "", false)
def tyJ13 : Nat → FieldType := fun k => match k with
  | _ => .int
abbrev wsJ130 : List Cond := u_ws RJ13 TJ13 0
theorem nmJ13 : ∀ a, a < 0 → ∀ b, b < 0 → a ≠ b → (TJ13 a).2.1 ≠ (TJ13 b).2.1 := by decide +kernel
theorem tyJ13_ok : ∀ k, k < 0 → parseFieldDescriptor (TJ13 k).2.2.1 = some (tyJ13 k) := by decide +kernel
abbrev cJ13_numberOfTrailingZeros_95d88 : ByteArray := prog_15_method_49_code
def yJ13_numberOfTrailingZeros_95d88 : MethodName := ⟨RJ13, "numberOfTrailingZeros", "(J)I"⟩
abbrev cJ13_bitCount_95d88 : ByteArray := prog_15_method_50_code
def yJ13_bitCount_95d88 : MethodName := ⟨RJ13, "bitCount", "(J)I"⟩
def RJ9 : String := "java/lang/Math"
def TJ9 : u_T := fun k => match k with
  | _ => ("", "", "", false)
def tyJ9 : Nat → FieldType := fun k => match k with
  | _ => .int
abbrev wsJ90 : List Cond := u_ws RJ9 TJ9 0
theorem nmJ9 : ∀ a, a < 0 → ∀ b, b < 0 → a ≠ b → (TJ9 a).2.1 ≠ (TJ9 b).2.1 := by decide +kernel
theorem tyJ9_ok : ∀ k, k < 0 → parseFieldDescriptor (TJ9 k).2.2.1 = some (tyJ9 k) := by decide +kernel
abbrev cJ9_abs_0f7a4 : ByteArray := prog_16_method_59_code
def yJ9_abs_0f7a4 : MethodName := ⟨RJ9, "abs", "(I)I"⟩
abbrev cJ9_max_7cf53 : ByteArray := prog_16_method_65_code
def yJ9_max_7cf53 : MethodName := ⟨RJ9, "max", "(II)I"⟩
abbrev cJ9_min_7cf53 : ByteArray := prog_16_method_69_code
def yJ9_min_7cf53 : MethodName := ⟨RJ9, "min", "(II)I"⟩
def RJxd2413 : String := "java/lang/Number"
def TJxd2413 : u_T := fun k => match k with
  | _ => ("", "", "", false)
def tyJxd2413 : Nat → FieldType := fun k => match k with
  | _ => .int
abbrev wsJxd24130 : List Cond := u_ws RJxd2413 TJxd2413 0
theorem nmJxd2413 : ∀ a, a < 0 → ∀ b, b < 0 → a ≠ b → (TJxd2413 a).2.1 ≠ (TJxd2413 b).2.1 := by decide +kernel
theorem tyJxd2413_ok : ∀ k, k < 0 → parseFieldDescriptor (TJxd2413 k).2.2.1 = some (tyJxd2413 k) := by decide +kernel
def RJ0 : String := "java/lang/String"
def TJ0 : u_T := fun k => match k with
  | _ => ("", "", "", false)
def tyJ0 : Nat → FieldType := fun k => match k with
  | _ => .int
abbrev wsJ00 : List Cond := u_ws RJ0 TJ0 0
theorem nmJ0 : ∀ a, a < 0 → ∀ b, b < 0 → a ≠ b → (TJ0 a).2.1 ≠ (TJ0 b).2.1 := by decide +kernel
theorem tyJ0_ok : ∀ k, k < 0 → parseFieldDescriptor (TJ0 k).2.2.1 = some (tyJ0 k) := by decide +kernel
abbrev cJ0_length_8abf5 : ByteArray := prog_18_method_54_code
def yJ0_length_8abf5 : MethodName := ⟨RJ0, "length", "()I"⟩
abbrev cJ0_charAt_5068e : ByteArray := prog_18_method_56_code
def yJ0_charAt_5068e : MethodName := ⟨RJ0, "charAt", "(I)C"⟩
abbrev cJ0_coder_7d493 : ByteArray := prog_18_method_152_code
def yJ0_coder_7d493 : MethodName := ⟨RJ0, "coder", "()B"⟩
abbrev cJ0_isLatin1_aae02 : ByteArray := prog_18_method_154_code
def yJ0_isLatin1_aae02 : MethodName := ⟨RJ0, "isLatin1", "()Z"⟩
abbrev cJ0_checkIndex_df160 : ByteArray := prog_18_method_155_code
def yJ0_checkIndex_df160 : MethodName := ⟨RJ0, "checkIndex", "(II)V"⟩
def RJ1 : String := "java/lang/StringLatin1"
def TJ1 : u_T := fun k => match k with
  | _ => ("", "", "", false)
def tyJ1 : Nat → FieldType := fun k => match k with
  | _ => .int
abbrev wsJ10 : List Cond := u_ws RJ1 TJ1 0
theorem nmJ1 : ∀ a, a < 0 → ∀ b, b < 0 → a ≠ b → (TJ1 a).2.1 ≠ (TJ1 b).2.1 := by decide +kernel
theorem tyJ1_ok : ∀ k, k < 0 → parseFieldDescriptor (TJ1 k).2.2.1 = some (tyJ1 k) := by decide +kernel
abbrev cJ1_charAt_3b067 : ByteArray := prog_19_method_2_code
def yJ1_charAt_3b067 : MethodName := ⟨RJ1, "charAt", "([BI)C"⟩
def RJ2 : String := "java/lang/StringUTF16"
def TJ2 : u_T := fun k => match k with
  | _ => ("", "", "", false)
def tyJ2 : Nat → FieldType := fun k => match k with
  | _ => .int
abbrev wsJ20 : List Cond := u_ws RJ2 TJ2 0
theorem nmJ2 : ∀ a, a < 0 → ∀ b, b < 0 → a ≠ b → (TJ2 a).2.1 ≠ (TJ2 b).2.1 := by decide +kernel
theorem tyJ2_ok : ∀ k, k < 0 → parseFieldDescriptor (TJ2 k).2.2.1 = some (tyJ2 k) := by decide +kernel
abbrev cJ2_getChar_3b067 : ByteArray := prog_20_method_5_code
def yJ2_getChar_3b067 : MethodName := ⟨RJ2, "getChar", "([BI)C"⟩
abbrev cJ2_length_9d52b : ByteArray := prog_20_method_6_code
def yJ2_length_9d52b : MethodName := ⟨RJ2, "length", "([B)I"⟩
abbrev cJ2_charAt_3b067 : ByteArray := prog_20_method_83_code
def yJ2_charAt_3b067 : MethodName := ⟨RJ2, "charAt", "([BI)C"⟩
abbrev cJ2_checkIndex_2214a : ByteArray := prog_20_method_91_code
def yJ2_checkIndex_2214a : MethodName := ⟨RJ2, "checkIndex", "(I[B)V"⟩
def RJ10 : String := "java/lang/System"
def TJ10 : u_T := fun k => match k with
  | _ => ("", "", "", false)
def tyJ10 : Nat → FieldType := fun k => match k with
  | _ => .int
abbrev wsJ100 : List Cond := u_ws RJ10 TJ10 0
theorem nmJ10 : ∀ a, a < 0 → ∀ b, b < 0 → a ≠ b → (TJ10 a).2.1 ≠ (TJ10 b).2.1 := by decide +kernel
theorem tyJ10_ok : ∀ k, k < 0 → parseFieldDescriptor (TJ10 k).2.2.1 = some (tyJ10 k) := by decide +kernel
def RJxfd54e : String := "java/lang/constant/Constable"
def TJxfd54e : u_T := fun k => match k with
  | _ => ("", "", "", false)
def tyJxfd54e : Nat → FieldType := fun k => match k with
  | _ => .int
abbrev wsJxfd54e0 : List Cond := u_ws RJxfd54e TJxfd54e 0
theorem nmJxfd54e : ∀ a, a < 0 → ∀ b, b < 0 → a ≠ b → (TJxfd54e a).2.1 ≠ (TJxfd54e b).2.1 := by decide +kernel
theorem tyJxfd54e_ok : ∀ k, k < 0 → parseFieldDescriptor (TJxfd54e k).2.2.1 = some (tyJxfd54e k) := by decide +kernel
def RJx3cf43 : String := "java/lang/constant/ConstantDesc"
def TJx3cf43 : u_T := fun k => match k with
  | _ => ("", "", "", false)
def tyJx3cf43 : Nat → FieldType := fun k => match k with
  | _ => .int
abbrev wsJx3cf430 : List Cond := u_ws RJx3cf43 TJx3cf43 0
theorem nmJx3cf43 : ∀ a, a < 0 → ∀ b, b < 0 → a ≠ b → (TJx3cf43 a).2.1 ≠ (TJx3cf43 b).2.1 := by decide +kernel
theorem tyJx3cf43_ok : ∀ k, k < 0 → parseFieldDescriptor (TJx3cf43 k).2.2.1 = some (tyJx3cf43 k) := by decide +kernel
def RJ7 : String := "java/util/Arrays"
def TJ7 : u_T := fun k => match k with
  | _ => ("", "", "", false)
def tyJ7 : Nat → FieldType := fun k => match k with
  | _ => .int
abbrev wsJ70 : List Cond := u_ws RJ7 TJ7 0
theorem nmJ7 : ∀ a, a < 0 → ∀ b, b < 0 → a ≠ b → (TJ7 a).2.1 ≠ (TJ7 b).2.1 := by decide +kernel
theorem tyJ7_ok : ∀ k, k < 0 → parseFieldDescriptor (TJ7 k).2.2.1 = some (tyJ7 k) := by decide +kernel
abbrev cJ7_fill_d0a16 : ByteArray := prog_22_method_101_code
def yJ7_fill_d0a16 : MethodName := ⟨RJ7, "fill", "([JJ)V"⟩
abbrev cJ7_fill_53178 : ByteArray := prog_22_method_103_code
def yJ7_fill_53178 : MethodName := ⟨RJ7, "fill", "([II)V"⟩
def RJ3 : String := "jdk/internal/util/Preconditions"
def TJ3 : u_T := fun k => match k with
  | _ => ("", "", "", false)
def tyJ3 : Nat → FieldType := fun k => match k with
  | _ => .int
abbrev wsJ30 : List Cond := u_ws RJ3 TJ3 0
theorem nmJ3 : ∀ a, a < 0 → ∀ b, b < 0 → a ≠ b → (TJ3 a).2.1 ≠ (TJ3 b).2.1 := by decide +kernel
theorem tyJ3_ok : ∀ k, k < 0 → parseFieldDescriptor (TJ3 k).2.2.1 = some (tyJ3 k) := by decide +kernel
abbrev cJ3_checkIndex_8e157 : ByteArray := prog_23_method_11_code
def yJ3_checkIndex_8e157 : MethodName := ⟨RJ3, "checkIndex", "(IILjava/util/function/BiFunction;)I"⟩
def RL : String := "CoarserOrdersLaw"
abbrev cL_law : ByteArray := code
abbrev vwCl : List vw_C := [(RX0, TX0, 6), (RX1, TX1, 12), (RX2, TX2, 5), (RX3, TX3, 3), (RX4, TX4, 10), (RX5, TX5, 3), (RX6, TX6, 3), (RX7, TX7, 2), (RX8, TX8, 8), (RX9, TX9, 3), (RX10, TX10, 18), (RX11, TX11, 50)]
