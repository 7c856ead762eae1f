section
-- ===== PART A: goes FIRST, ahead of the names: the tables' words, and 'selects' of the private methods out of them =====
/-- a private method of a class that the tables say can be made, by its rows of tables_1 -/
def lw_okq (q : MethodName × Nat) : Prop := (q.1.cls ≠ "java/lang/invoke/MethodHandle" ∧ q.1.cls ≠ "java/lang/invoke/VarHandle") ∧ Cond.instantiable q.1.cls q.2 ∈ tables_1 ∧ Cond.privateMethod q.1 ∈ tables_1 ∧ Cond.instanceMethod q.1 ∈ tables_1
theorem lw_p0 : lw_okq (⟨"RegularRally", "roadOf", "(I)LRegularRally$Road;"⟩, 12) := ⟨⟨by decide +kernel, by decide +kernel⟩, List.mem_of_getElem? (i := 17) (by decide +kernel), List.mem_of_getElem? (i := 271) (by decide +kernel), List.mem_of_getElem? (i := 272) (by decide +kernel)⟩
theorem lw_p1 : lw_okq (⟨"RegularRally", "answerOfFault", "(I)I"⟩, 12) := ⟨⟨by decide +kernel, by decide +kernel⟩, List.mem_of_getElem? (i := 17) (by decide +kernel), List.mem_of_getElem? (i := 279) (by decide +kernel), List.mem_of_getElem? (i := 280) (by decide +kernel)⟩
theorem lw_p2 : lw_okq (⟨"RegularRally", "sheetOf", "(I)LRegularRally$Sheet;"⟩, 12) := ⟨⟨by decide +kernel, by decide +kernel⟩, List.mem_of_getElem? (i := 17) (by decide +kernel), List.mem_of_getElem? (i := 305) (by decide +kernel), List.mem_of_getElem? (i := 306) (by decide +kernel)⟩
theorem lw_p3 : lw_okq (⟨"RegularRally", "searchTheMap", "()V"⟩, 12) := ⟨⟨by decide +kernel, by decide +kernel⟩, List.mem_of_getElem? (i := 17) (by decide +kernel), List.mem_of_getElem? (i := 331) (by decide +kernel), List.mem_of_getElem? (i := 332) (by decide +kernel)⟩
theorem lw_p4 : lw_okq (⟨"RegularRally$Search", "addExit", "(IILRegularRally$Road;)V"⟩, 13) := ⟨⟨by decide +kernel, by decide +kernel⟩, List.mem_of_getElem? (i := 43) (by decide +kernel), List.mem_of_getElem? (i := 339) (by decide +kernel), List.mem_of_getElem? (i := 340) (by decide +kernel)⟩
theorem lw_p5 : lw_okq (⟨"RegularRally", "layTheBest", "()V"⟩, 12) := ⟨⟨by decide +kernel, by decide +kernel⟩, List.mem_of_getElem? (i := 17) (by decide +kernel), List.mem_of_getElem? (i := 382) (by decide +kernel), List.mem_of_getElem? (i := 383) (by decide +kernel)⟩
theorem lw_p6 : lw_okq (⟨"RegularRally", "lostByFault", "(I)J"⟩, 12) := ⟨⟨by decide +kernel, by decide +kernel⟩, List.mem_of_getElem? (i := 17) (by decide +kernel), List.mem_of_getElem? (i := 410) (by decide +kernel), List.mem_of_getElem? (i := 411) (by decide +kernel)⟩
theorem lw_p7 : lw_okq (⟨"RegularRally", "proofOfRow", "([III)J"⟩, 12) := ⟨⟨by decide +kernel, by decide +kernel⟩, List.mem_of_getElem? (i := 17) (by decide +kernel), List.mem_of_getElem? (i := 414) (by decide +kernel), List.mem_of_getElem? (i := 415) (by decide +kernel)⟩
theorem lw_p8 : lw_okq (⟨"RegularRally$Way", "speedFrom", "(I)I"⟩, 7) := ⟨⟨by decide +kernel, by decide +kernel⟩, List.mem_of_getElem? (i := 101) (by decide +kernel), List.mem_of_getElem? (i := 436) (by decide +kernel), List.mem_of_getElem? (i := 437) (by decide +kernel)⟩
theorem lw_p9 : lw_okq (⟨"RegularRally$Way", "endOfStretch", "(II)I"⟩, 7) := ⟨⟨by decide +kernel, by decide +kernel⟩, List.mem_of_getElem? (i := 101) (by decide +kernel), List.mem_of_getElem? (i := 444) (by decide +kernel), List.mem_of_getElem? (i := 445) (by decide +kernel)⟩
theorem lw_p10 : lw_okq (⟨"RegularRally", "isControlAt", "(I)Z"⟩, 12) := ⟨⟨by decide +kernel, by decide +kernel⟩, List.mem_of_getElem? (i := 17) (by decide +kernel), List.mem_of_getElem? (i := 461) (by decide +kernel), List.mem_of_getElem? (i := 462) (by decide +kernel)⟩
theorem lw_p11 : lw_okq (⟨"RegularRally", "controlOf", "(I)LRegularRally$Control;"⟩, 12) := ⟨⟨by decide +kernel, by decide +kernel⟩, List.mem_of_getElem? (i := 17) (by decide +kernel), List.mem_of_getElem? (i := 494) (by decide +kernel), List.mem_of_getElem? (i := 495) (by decide +kernel)⟩
theorem lw_p12 : lw_okq (⟨"RegularRally", "carOf", "(I)LRegularRally$Car;"⟩, 12) := ⟨⟨by decide +kernel, by decide +kernel⟩, List.mem_of_getElem? (i := 17) (by decide +kernel), List.mem_of_getElem? (i := 588) (by decide +kernel), List.mem_of_getElem? (i := 589) (by decide +kernel)⟩
theorem lw_p13 : lw_okq (⟨"RegularRally", "errorOf", "(LRegularRally$Car;I)J"⟩, 12) := ⟨⟨by decide +kernel, by decide +kernel⟩, List.mem_of_getElem? (i := 17) (by decide +kernel), List.mem_of_getElem? (i := 614) (by decide +kernel), List.mem_of_getElem? (i := 615) (by decide +kernel)⟩
theorem lw_p14 : lw_okq (⟨"RegularRally", "carriedTo", "(LRegularRally$Car;I)I"⟩, 12) := ⟨⟨by decide +kernel, by decide +kernel⟩, List.mem_of_getElem? (i := 17) (by decide +kernel), List.mem_of_getElem? (i := 618) (by decide +kernel), List.mem_of_getElem? (i := 619) (by decide +kernel)⟩
theorem lw_p15 : lw_okq (⟨"RegularRally", "pointsOf", "(LRegularRally$Car;I)I"⟩, 12) := ⟨⟨by decide +kernel, by decide +kernel⟩, List.mem_of_getElem? (i := 17) (by decide +kernel), List.mem_of_getElem? (i := 632) (by decide +kernel), List.mem_of_getElem? (i := 633) (by decide +kernel)⟩
def lw_privs_1 : List (MethodName × Nat) := [(⟨"RegularRally", "roadOf", "(I)LRegularRally$Road;"⟩, 12), (⟨"RegularRally", "answerOfFault", "(I)I"⟩, 12), (⟨"RegularRally", "sheetOf", "(I)LRegularRally$Sheet;"⟩, 12), (⟨"RegularRally", "searchTheMap", "()V"⟩, 12), (⟨"RegularRally$Search", "addExit", "(IILRegularRally$Road;)V"⟩, 13), (⟨"RegularRally", "layTheBest", "()V"⟩, 12), (⟨"RegularRally", "lostByFault", "(I)J"⟩, 12), (⟨"RegularRally", "proofOfRow", "([III)J"⟩, 12), (⟨"RegularRally$Way", "speedFrom", "(I)I"⟩, 7), (⟨"RegularRally$Way", "endOfStretch", "(II)I"⟩, 7), (⟨"RegularRally", "isControlAt", "(I)Z"⟩, 12), (⟨"RegularRally", "controlOf", "(I)LRegularRally$Control;"⟩, 12), (⟨"RegularRally", "carOf", "(I)LRegularRally$Car;"⟩, 12), (⟨"RegularRally", "errorOf", "(LRegularRally$Car;I)J"⟩, 12), (⟨"RegularRally", "carriedTo", "(LRegularRally$Car;I)I"⟩, 12), (⟨"RegularRally", "pointsOf", "(LRegularRally$Car;I)I"⟩, 12)]
theorem lw_r1 : ∀ q ∈ lw_privs_1, lw_okq q := List.forall_mem_cons.mpr ⟨lw_p0, List.forall_mem_cons.mpr ⟨lw_p1, List.forall_mem_cons.mpr ⟨lw_p2, List.forall_mem_cons.mpr ⟨lw_p3, List.forall_mem_cons.mpr ⟨lw_p4, List.forall_mem_cons.mpr ⟨lw_p5, List.forall_mem_cons.mpr ⟨lw_p6, List.forall_mem_cons.mpr ⟨lw_p7, List.forall_mem_cons.mpr ⟨lw_p8, List.forall_mem_cons.mpr ⟨lw_p9, List.forall_mem_cons.mpr ⟨lw_p10, List.forall_mem_cons.mpr ⟨lw_p11, List.forall_mem_cons.mpr ⟨lw_p12, List.forall_mem_cons.mpr ⟨lw_p13, List.forall_mem_cons.mpr ⟨lw_p14, List.forall_mem_cons.mpr ⟨lw_p15, fun _ h => absurd h List.not_mem_nil⟩⟩⟩⟩⟩⟩⟩⟩⟩⟩⟩⟩⟩⟩⟩⟩
theorem lw_p16 : lw_okq (⟨"RegularRally", "isOutOfOrder", "(LRegularRally$Car;I)Z"⟩, 12) := ⟨⟨by decide +kernel, by decide +kernel⟩, List.mem_of_getElem? (i := 17) (by decide +kernel), List.mem_of_getElem? (i := 636) (by decide +kernel), List.mem_of_getElem? (i := 637) (by decide +kernel)⟩
theorem lw_p17 : lw_okq (⟨"RegularRally", "totalOf", "(LRegularRally$Car;)I"⟩, 12) := ⟨⟨by decide +kernel, by decide +kernel⟩, List.mem_of_getElem? (i := 17) (by decide +kernel), List.mem_of_getElem? (i := 670) (by decide +kernel), List.mem_of_getElem? (i := 671) (by decide +kernel)⟩
theorem lw_p18 : lw_okq (⟨"RegularRally", "rankOf", "(LRegularRally$Car;)I"⟩, 12) := ⟨⟨by decide +kernel, by decide +kernel⟩, List.mem_of_getElem? (i := 17) (by decide +kernel), List.mem_of_getElem? (i := 674) (by decide +kernel), List.mem_of_getElem? (i := 675) (by decide +kernel)⟩
theorem lw_p19 : lw_okq (⟨"RegularRally", "isBetterOfTie", "(LRegularRally$Car;LRegularRally$Car;)Z"⟩, 12) := ⟨⟨by decide +kernel, by decide +kernel⟩, List.mem_of_getElem? (i := 17) (by decide +kernel), List.mem_of_getElem? (i := 678) (by decide +kernel), List.mem_of_getElem? (i := 679) (by decide +kernel)⟩
theorem lw_p20 : lw_okq (⟨"RegularRally", "missedBy", "(LRegularRally$Car;)I"⟩, 12) := ⟨⟨by decide +kernel, by decide +kernel⟩, List.mem_of_getElem? (i := 17) (by decide +kernel), List.mem_of_getElem? (i := 682) (by decide +kernel), List.mem_of_getElem? (i := 683) (by decide +kernel)⟩
theorem lw_p21 : lw_okq (⟨"RegularRally", "outOfOrderBy", "(LRegularRally$Car;)I"⟩, 12) := ⟨⟨by decide +kernel, by decide +kernel⟩, List.mem_of_getElem? (i := 17) (by decide +kernel), List.mem_of_getElem? (i := 686) (by decide +kernel), List.mem_of_getElem? (i := 687) (by decide +kernel)⟩
theorem lw_p22 : lw_okq (⟨"RegularRally", "leaveNumber", "(I)V"⟩, 12) := ⟨⟨by decide +kernel, by decide +kernel⟩, List.mem_of_getElem? (i := 17) (by decide +kernel), List.mem_of_getElem? (i := 732) (by decide +kernel), List.mem_of_getElem? (i := 733) (by decide +kernel)⟩
theorem lw_p23 : lw_okq (⟨"RegularRallyModel", "noRoad", "(I)Z"⟩, 43) := ⟨⟨by decide +kernel, by decide +kernel⟩, List.mem_of_getElem? (i := 782) (by decide +kernel), List.mem_of_getElem? (i := 936) (by decide +kernel), List.mem_of_getElem? (i := 937) (by decide +kernel)⟩
theorem lw_p24 : lw_okq (⟨"RegularRallyModel", "refused", "(I)I"⟩, 43) := ⟨⟨by decide +kernel, by decide +kernel⟩, List.mem_of_getElem? (i := 782) (by decide +kernel), List.mem_of_getElem? (i := 944) (by decide +kernel), List.mem_of_getElem? (i := 945) (by decide +kernel)⟩
theorem lw_p25 : lw_okq (⟨"RegularRallyModel", "failed", "(I)I"⟩, 43) := ⟨⟨by decide +kernel, by decide +kernel⟩, List.mem_of_getElem? (i := 782) (by decide +kernel), List.mem_of_getElem? (i := 948) (by decide +kernel), List.mem_of_getElem? (i := 949) (by decide +kernel)⟩
theorem lw_p26 : lw_okq (⟨"RegularRallyModel", "noCell", "(II)I"⟩, 43) := ⟨⟨by decide +kernel, by decide +kernel⟩, List.mem_of_getElem? (i := 782) (by decide +kernel), List.mem_of_getElem? (i := 972) (by decide +kernel), List.mem_of_getElem? (i := 973) (by decide +kernel)⟩
theorem lw_p27 : lw_okq (⟨"RegularRallyModel", "failedLong", "(I)J"⟩, 43) := ⟨⟨by decide +kernel, by decide +kernel⟩, List.mem_of_getElem? (i := 782) (by decide +kernel), List.mem_of_getElem? (i := 984) (by decide +kernel), List.mem_of_getElem? (i := 985) (by decide +kernel)⟩
theorem lw_p28 : lw_okq (⟨"RegularRallyModel", "faultOf", "(IIII)I"⟩, 43) := ⟨⟨by decide +kernel, by decide +kernel⟩, List.mem_of_getElem? (i := 782) (by decide +kernel), List.mem_of_getElem? (i := 999) (by decide +kernel), List.mem_of_getElem? (i := 1000) (by decide +kernel)⟩
theorem lw_p29 : lw_okq (⟨"RegularRallyModel", "isBook", "(III)Z"⟩, 43) := ⟨⟨by decide +kernel, by decide +kernel⟩, List.mem_of_getElem? (i := 782) (by decide +kernel), List.mem_of_getElem? (i := 1003) (by decide +kernel), List.mem_of_getElem? (i := 1004) (by decide +kernel)⟩
theorem lw_p30 : lw_okq (⟨"RegularRallyModel", "search", "()Z"⟩, 43) := ⟨⟨by decide +kernel, by decide +kernel⟩, List.mem_of_getElem? (i := 782) (by decide +kernel), List.mem_of_getElem? (i := 1012) (by decide +kernel), List.mem_of_getElem? (i := 1013) (by decide +kernel)⟩
theorem lw_p31 : lw_okq (⟨"RegularRallyModel", "isIn", "(I)Z"⟩, 43) := ⟨⟨by decide +kernel, by decide +kernel⟩, List.mem_of_getElem? (i := 782) (by decide +kernel), List.mem_of_getElem? (i := 1016) (by decide +kernel), List.mem_of_getElem? (i := 1017) (by decide +kernel)⟩
def lw_privs_2 : List (MethodName × Nat) := [(⟨"RegularRally", "isOutOfOrder", "(LRegularRally$Car;I)Z"⟩, 12), (⟨"RegularRally", "totalOf", "(LRegularRally$Car;)I"⟩, 12), (⟨"RegularRally", "rankOf", "(LRegularRally$Car;)I"⟩, 12), (⟨"RegularRally", "isBetterOfTie", "(LRegularRally$Car;LRegularRally$Car;)Z"⟩, 12), (⟨"RegularRally", "missedBy", "(LRegularRally$Car;)I"⟩, 12), (⟨"RegularRally", "outOfOrderBy", "(LRegularRally$Car;)I"⟩, 12), (⟨"RegularRally", "leaveNumber", "(I)V"⟩, 12), (⟨"RegularRallyModel", "noRoad", "(I)Z"⟩, 43), (⟨"RegularRallyModel", "refused", "(I)I"⟩, 43), (⟨"RegularRallyModel", "failed", "(I)I"⟩, 43), (⟨"RegularRallyModel", "noCell", "(II)I"⟩, 43), (⟨"RegularRallyModel", "failedLong", "(I)J"⟩, 43), (⟨"RegularRallyModel", "faultOf", "(IIII)I"⟩, 43), (⟨"RegularRallyModel", "isBook", "(III)Z"⟩, 43), (⟨"RegularRallyModel", "search", "()Z"⟩, 43), (⟨"RegularRallyModel", "isIn", "(I)Z"⟩, 43)]
theorem lw_r2 : ∀ q ∈ lw_privs_2, lw_okq q := List.forall_mem_cons.mpr ⟨lw_p16, List.forall_mem_cons.mpr ⟨lw_p17, List.forall_mem_cons.mpr ⟨lw_p18, List.forall_mem_cons.mpr ⟨lw_p19, List.forall_mem_cons.mpr ⟨lw_p20, List.forall_mem_cons.mpr ⟨lw_p21, List.forall_mem_cons.mpr ⟨lw_p22, List.forall_mem_cons.mpr ⟨lw_p23, List.forall_mem_cons.mpr ⟨lw_p24, List.forall_mem_cons.mpr ⟨lw_p25, List.forall_mem_cons.mpr ⟨lw_p26, List.forall_mem_cons.mpr ⟨lw_p27, List.forall_mem_cons.mpr ⟨lw_p28, List.forall_mem_cons.mpr ⟨lw_p29, List.forall_mem_cons.mpr ⟨lw_p30, List.forall_mem_cons.mpr ⟨lw_p31, fun _ h => absurd h List.not_mem_nil⟩⟩⟩⟩⟩⟩⟩⟩⟩⟩⟩⟩⟩⟩⟩⟩
theorem lw_p32 : lw_okq (⟨"RegularRallyModel", "leads", "(II)I"⟩, 43) := ⟨⟨by decide +kernel, by decide +kernel⟩, List.mem_of_getElem? (i := 782) (by decide +kernel), List.mem_of_getElem? (i := 1020) (by decide +kernel), List.mem_of_getElem? (i := 1021) (by decide +kernel)⟩
theorem lw_p33 : lw_okq (⟨"RegularRallyModel", "judge", "()V"⟩, 43) := ⟨⟨by decide +kernel, by decide +kernel⟩, List.mem_of_getElem? (i := 782) (by decide +kernel), List.mem_of_getElem? (i := 1025) (by decide +kernel), List.mem_of_getElem? (i := 1026) (by decide +kernel)⟩
theorem lw_p34 : lw_okq (⟨"RegularRallyModel", "proved", "(III)J"⟩, 43) := ⟨⟨by decide +kernel, by decide +kernel⟩, List.mem_of_getElem? (i := 782) (by decide +kernel), List.mem_of_getElem? (i := 1041) (by decide +kernel), List.mem_of_getElem? (i := 1042) (by decide +kernel)⟩
theorem lw_p35 : lw_okq (⟨"RegularRallyModel", "wasAhead", "(III)Z"⟩, 43) := ⟨⟨by decide +kernel, by decide +kernel⟩, List.mem_of_getElem? (i := 782) (by decide +kernel), List.mem_of_getElem? (i := 1045) (by decide +kernel), List.mem_of_getElem? (i := 1046) (by decide +kernel)⟩
theorem lw_p36 : lw_okq (⟨"RegularRallyModel", "hasDue", "()Z"⟩, 43) := ⟨⟨by decide +kernel, by decide +kernel⟩, List.mem_of_getElem? (i := 782) (by decide +kernel), List.mem_of_getElem? (i := 1060) (by decide +kernel), List.mem_of_getElem? (i := 1061) (by decide +kernel)⟩
theorem lw_p37 : lw_okq (⟨"RegularRallyModel", "dueAt", "(I)J"⟩, 43) := ⟨⟨by decide +kernel, by decide +kernel⟩, List.mem_of_getElem? (i := 782) (by decide +kernel), List.mem_of_getElem? (i := 1064) (by decide +kernel), List.mem_of_getElem? (i := 1065) (by decide +kernel)⟩
theorem lw_p38 : lw_okq (⟨"RegularRallyModel", "noControl", "(I)Z"⟩, 43) := ⟨⟨by decide +kernel, by decide +kernel⟩, List.mem_of_getElem? (i := 782) (by decide +kernel), List.mem_of_getElem? (i := 1081) (by decide +kernel), List.mem_of_getElem? (i := 1082) (by decide +kernel)⟩
theorem lw_p39 : lw_okq (⟨"RegularRallyModel", "rightAt", "(IJ)J"⟩, 43) := ⟨⟨by decide +kernel, by decide +kernel⟩, List.mem_of_getElem? (i := 782) (by decide +kernel), List.mem_of_getElem? (i := 1093) (by decide +kernel), List.mem_of_getElem? (i := 1094) (by decide +kernel)⟩
theorem lw_p40 : lw_okq (⟨"RegularRallyModel", "noCar", "(I)Z"⟩, 43) := ⟨⟨by decide +kernel, by decide +kernel⟩, List.mem_of_getElem? (i := 782) (by decide +kernel), List.mem_of_getElem? (i := 1110) (by decide +kernel), List.mem_of_getElem? (i := 1111) (by decide +kernel)⟩
theorem lw_p41 : lw_okq (⟨"RegularRallyModel", "errorAt", "(II)J"⟩, 43) := ⟨⟨by decide +kernel, by decide +kernel⟩, List.mem_of_getElem? (i := 782) (by decide +kernel), List.mem_of_getElem? (i := 1122) (by decide +kernel), List.mem_of_getElem? (i := 1123) (by decide +kernel)⟩
theorem lw_p42 : lw_okq (⟨"RegularRallyModel", "carried", "(II)J"⟩, 43) := ⟨⟨by decide +kernel, by decide +kernel⟩, List.mem_of_getElem? (i := 782) (by decide +kernel), List.mem_of_getElem? (i := 1126) (by decide +kernel), List.mem_of_getElem? (i := 1127) (by decide +kernel)⟩
theorem lw_p43 : lw_okq (⟨"RegularRallyModel", "pointsAt", "(II)I"⟩, 43) := ⟨⟨by decide +kernel, by decide +kernel⟩, List.mem_of_getElem? (i := 782) (by decide +kernel), List.mem_of_getElem? (i := 1135) (by decide +kernel), List.mem_of_getElem? (i := 1136) (by decide +kernel)⟩
theorem lw_p44 : lw_okq (⟨"RegularRallyModel", "isOutOfOrder", "(II)Z"⟩, 43) := ⟨⟨by decide +kernel, by decide +kernel⟩, List.mem_of_getElem? (i := 782) (by decide +kernel), List.mem_of_getElem? (i := 1139) (by decide +kernel), List.mem_of_getElem? (i := 1140) (by decide +kernel)⟩
theorem lw_p45 : lw_okq (⟨"RegularRallyModel", "totalOf", "(I)I"⟩, 43) := ⟨⟨by decide +kernel, by decide +kernel⟩, List.mem_of_getElem? (i := 782) (by decide +kernel), List.mem_of_getElem? (i := 1150) (by decide +kernel), List.mem_of_getElem? (i := 1151) (by decide +kernel)⟩
theorem lw_p46 : lw_okq (⟨"RegularRallyModel", "isBetter", "(II)Z"⟩, 43) := ⟨⟨by decide +kernel, by decide +kernel⟩, List.mem_of_getElem? (i := 782) (by decide +kernel), List.mem_of_getElem? (i := 1154) (by decide +kernel), List.mem_of_getElem? (i := 1155) (by decide +kernel)⟩
theorem lw_p47 : lw_okq (⟨"RegularRallyModel", "traced", "(I)V"⟩, 43) := ⟨⟨by decide +kernel, by decide +kernel⟩, List.mem_of_getElem? (i := 782) (by decide +kernel), List.mem_of_getElem? (i := 1162) (by decide +kernel), List.mem_of_getElem? (i := 1163) (by decide +kernel)⟩
def lw_privs_3 : List (MethodName × Nat) := [(⟨"RegularRallyModel", "leads", "(II)I"⟩, 43), (⟨"RegularRallyModel", "judge", "()V"⟩, 43), (⟨"RegularRallyModel", "proved", "(III)J"⟩, 43), (⟨"RegularRallyModel", "wasAhead", "(III)Z"⟩, 43), (⟨"RegularRallyModel", "hasDue", "()Z"⟩, 43), (⟨"RegularRallyModel", "dueAt", "(I)J"⟩, 43), (⟨"RegularRallyModel", "noControl", "(I)Z"⟩, 43), (⟨"RegularRallyModel", "rightAt", "(IJ)J"⟩, 43), (⟨"RegularRallyModel", "noCar", "(I)Z"⟩, 43), (⟨"RegularRallyModel", "errorAt", "(II)J"⟩, 43), (⟨"RegularRallyModel", "carried", "(II)J"⟩, 43), (⟨"RegularRallyModel", "pointsAt", "(II)I"⟩, 43), (⟨"RegularRallyModel", "isOutOfOrder", "(II)Z"⟩, 43), (⟨"RegularRallyModel", "totalOf", "(I)I"⟩, 43), (⟨"RegularRallyModel", "isBetter", "(II)Z"⟩, 43), (⟨"RegularRallyModel", "traced", "(I)V"⟩, 43)]
theorem lw_r3 : ∀ q ∈ lw_privs_3, lw_okq q := List.forall_mem_cons.mpr ⟨lw_p32, List.forall_mem_cons.mpr ⟨lw_p33, List.forall_mem_cons.mpr ⟨lw_p34, List.forall_mem_cons.mpr ⟨lw_p35, List.forall_mem_cons.mpr ⟨lw_p36, List.forall_mem_cons.mpr ⟨lw_p37, List.forall_mem_cons.mpr ⟨lw_p38, List.forall_mem_cons.mpr ⟨lw_p39, List.forall_mem_cons.mpr ⟨lw_p40, List.forall_mem_cons.mpr ⟨lw_p41, List.forall_mem_cons.mpr ⟨lw_p42, List.forall_mem_cons.mpr ⟨lw_p43, List.forall_mem_cons.mpr ⟨lw_p44, List.forall_mem_cons.mpr ⟨lw_p45, List.forall_mem_cons.mpr ⟨lw_p46, List.forall_mem_cons.mpr ⟨lw_p47, fun _ h => absurd h List.not_mem_nil⟩⟩⟩⟩⟩⟩⟩⟩⟩⟩⟩⟩⟩⟩⟩⟩
def lw_privs : List (MethodName × Nat) := lw_privs_1 ++ (lw_privs_2 ++ (lw_privs_3))
def lw_tbl : List Cond := k2_sels lw_privs ++ tables_1
theorem lw_privs_ok : ∀ q ∈ lw_privs, lw_okq q := by
  show ∀ q ∈ lw_privs_1 ++ (lw_privs_2 ++ (lw_privs_3)), lw_okq q
  exact List.forall_mem_append.mpr ⟨lw_r1, List.forall_mem_append.mpr ⟨lw_r2, lw_r3⟩⟩

def RX0 : String := "RegularRally$Book"
def TX0 : u_T := fun k => match k with
  | 0 => ("RegularRally$Book", "spots", "[I", true)
  | _ => ("RegularRally$Book", "count", "I", false)
def tyX0 : Nat → FieldType := fun k => match k with
  | 0 => .array .int
  | _ => .int
abbrev wsX00 : List Cond := u_ws RX0 TX0 2
theorem nmX0 : ∀ a, a < 2 → ∀ b, b < 2 → a ≠ b → (TX0 a).2.1 ≠ (TX0 b).2.1 := by decide +kernel
theorem tyX0_ok : ∀ k, k < 2 → parseFieldDescriptor (TX0 k).2.2.1 = some (tyX0 k) := by decide +kernel
abbrev cX0_init : ByteArray := prog_2_method_1_code
def yX0_init : MethodName := ⟨RX0, "<init>", "()V"⟩
abbrev cX0_become : ByteArray := prog_2_method_2_code
def yX0_become : MethodName := ⟨RX0, "become", "([III)V"⟩
abbrev cX0_metAfter : ByteArray := prog_2_method_3_code
def yX0_metAfter : MethodName := ⟨RX0, "metAfter", "(II)I"⟩
abbrev cX0_isPassed : ByteArray := prog_2_method_4_code
def yX0_isPassed : MethodName := ⟨RX0, "isPassed", "(II)Z"⟩
def RX1 : String := "RegularRally$Car"
def TX1 : u_T := fun k => match k with
  | 0 => ("RegularRally$Car", "number", "I", true)
  | 1 => ("RegularRally$Car", "start", "I", true)
  | 2 => ("RegularRally$Car", "times", "[I", true)
  | 3 => ("RegularRally$Car", "arrivals", "[I", true)
  | 4 => ("RegularRally$Car", "arrivalCount", "I", false)
  | _ => ("RegularRally$Car", "claims", "[I", true)
def tyX1 : Nat → FieldType := fun k => match k with
  | 0 => .int
  | 1 => .int
  | 2 => .array .int
  | 3 => .array .int
  | 4 => .int
  | _ => .array .int
abbrev wsX10 : List Cond := u_ws RX1 TX1 6
theorem nmX1 : ∀ a, a < 6 → ∀ b, b < 6 → a ≠ b → (TX1 a).2.1 ≠ (TX1 b).2.1 := by decide +kernel
theorem tyX1_ok : ∀ k, k < 6 → parseFieldDescriptor (TX1 k).2.2.1 = some (tyX1 k) := by decide +kernel
abbrev cX1_init : ByteArray := prog_3_method_1_code
def yX1_init : MethodName := ⟨RX1, "<init>", "(II)V"⟩
abbrev cX1_isClockedAt : ByteArray := prog_3_method_2_code
def yX1_isClockedAt : MethodName := ⟨RX1, "isClockedAt", "(I)Z"⟩
abbrev cX1_arrive : ByteArray := prog_3_method_3_code
def yX1_arrive : MethodName := ⟨RX1, "arrive", "(II)V"⟩
abbrev cX1_forgetTheWay : ByteArray := prog_3_method_4_code
def yX1_forgetTheWay : MethodName := ⟨RX1, "forgetTheWay", "()V"⟩
abbrev cX1_share : ByteArray := prog_3_method_5_code
def yX1_share : MethodName := ⟨RX1, "share", "(I)I"⟩
abbrev cX1_greeting : ByteArray := prog_3_method_6_code
def yX1_greeting : MethodName := ⟨RX1, "greeting", "(LRegularRally;)I"⟩
def RX2 : String := "RegularRally$Control"
def TX2 : u_T := fun k => match k with
  | 0 => ("RegularRally$Control", "place", "I", true)
  | 1 => ("RegularRally$Control", "isStruck", "Z", false)
  | 2 => ("RegularRally$Control", "trueFrom", "I", false)
  | 3 => ("RegularRally$Control", "trueSpan", "J", false)
  | 4 => ("RegularRally$Control", "shownFrom", "I", false)
  | _ => ("RegularRally$Control", "shownSpan", "J", false)
def tyX2 : Nat → FieldType := fun k => match k with
  | 0 => .int
  | 1 => .boolean
  | 2 => .int
  | 3 => .long
  | 4 => .int
  | _ => .long
abbrev wsX20 : List Cond := u_ws RX2 TX2 6
theorem nmX2 : ∀ a, a < 6 → ∀ b, b < 6 → a ≠ b → (TX2 a).2.1 ≠ (TX2 b).2.1 := by decide +kernel
theorem tyX2_ok : ∀ k, k < 6 → parseFieldDescriptor (TX2 k).2.2.1 = some (tyX2 k) := by decide +kernel
abbrev cX2_init : ByteArray := prog_4_method_1_code
def yX2_init : MethodName := ⟨RX2, "<init>", "(I)V"⟩
abbrev cX2_check : ByteArray := prog_4_method_2_code
def yX2_check : MethodName := ⟨RX2, "check", "(IIII)V"⟩
abbrev cX2_putRight : ByteArray := prog_4_method_3_code
def yX2_putRight : MethodName := ⟨RX2, "putRight", "(I)J"⟩
def RX3 : String := "RegularRally$Ford"
def TX3 : u_T := fun k => match k with
  | 0 => ("RegularRally$Road", "a", "I", true)
  | 1 => ("RegularRally$Road", "b", "I", true)
  | 2 => ("RegularRally$Road", "length", "I", true)
  | 3 => ("RegularRally$Road", "kind", "I", true)
  | 4 => ("RegularRally$Road", "isShut", "Z", false)
  | _ => ("RegularRally$Ford", "isWet", "Z", false)
def tyX3 : Nat → FieldType := fun k => match k with
  | 0 => .int
  | 1 => .int
  | 2 => .int
  | 3 => .int
  | 4 => .boolean
  | _ => .boolean
abbrev wsX30 : List Cond := u_ws RX3 TX3 6
theorem nmX3 : ∀ a, a < 6 → ∀ b, b < 6 → a ≠ b → (TX3 a).2.1 ≠ (TX3 b).2.1 := by decide +kernel
theorem tyX3_ok : ∀ k, k < 6 → parseFieldDescriptor (TX3 k).2.2.1 = some (tyX3 k) := by decide +kernel
abbrev cX3_init : ByteArray := prog_5_method_1_code
def yX3_init : MethodName := ⟨RX3, "<init>", "(III)V"⟩
abbrev cX3_isOpen : ByteArray := prog_5_method_2_code
def yX3_isOpen : MethodName := ⟨RX3, "isOpen", "()Z"⟩
abbrev cX3_telling : ByteArray := prog_5_method_3_code
def yX3_telling : MethodName := ⟨RX3, "telling", "(LRegularRally;)I"⟩
def RX4 : String := "RegularRally$Novice"
def TX4 : u_T := fun k => match k with
  | 0 => ("RegularRally$Car", "number", "I", true)
  | 1 => ("RegularRally$Car", "start", "I", true)
  | 2 => ("RegularRally$Car", "times", "[I", true)
  | 3 => ("RegularRally$Car", "arrivals", "[I", true)
  | 4 => ("RegularRally$Car", "arrivalCount", "I", false)
  | _ => ("RegularRally$Car", "claims", "[I", true)
def tyX4 : Nat → FieldType := fun k => match k with
  | 0 => .int
  | 1 => .int
  | 2 => .array .int
  | 3 => .array .int
  | 4 => .int
  | _ => .array .int
abbrev wsX40 : List Cond := u_ws RX4 TX4 6
theorem nmX4 : ∀ a, a < 6 → ∀ b, b < 6 → a ≠ b → (TX4 a).2.1 ≠ (TX4 b).2.1 := by decide +kernel
theorem tyX4_ok : ∀ k, k < 6 → parseFieldDescriptor (TX4 k).2.2.1 = some (tyX4 k) := by decide +kernel
abbrev cX4_init : ByteArray := prog_6_method_1_code
def yX4_init : MethodName := ⟨RX4, "<init>", "(II)V"⟩
abbrev cX4_share : ByteArray := prog_6_method_2_code
def yX4_share : MethodName := ⟨RX4, "share", "(I)I"⟩
abbrev cX4_greeting : ByteArray := prog_6_method_3_code
def yX4_greeting : MethodName := ⟨RX4, "greeting", "(LRegularRally;)I"⟩
def RX5 : String := "RegularRally$Old"
def TX5 : u_T := fun k => match k with
  | 0 => ("RegularRally$Car", "number", "I", true)
  | 1 => ("RegularRally$Car", "start", "I", true)
  | 2 => ("RegularRally$Car", "times", "[I", true)
  | 3 => ("RegularRally$Car", "arrivals", "[I", true)
  | 4 => ("RegularRally$Car", "arrivalCount", "I", false)
  | _ => ("RegularRally$Car", "claims", "[I", true)
def tyX5 : Nat → FieldType := fun k => match k with
  | 0 => .int
  | 1 => .int
  | 2 => .array .int
  | 3 => .array .int
  | 4 => .int
  | _ => .array .int
abbrev wsX50 : List Cond := u_ws RX5 TX5 6
theorem nmX5 : ∀ a, a < 6 → ∀ b, b < 6 → a ≠ b → (TX5 a).2.1 ≠ (TX5 b).2.1 := by decide +kernel
theorem tyX5_ok : ∀ k, k < 6 → parseFieldDescriptor (TX5 k).2.2.1 = some (tyX5 k) := by decide +kernel
abbrev cX5_init : ByteArray := prog_7_method_1_code
def yX5_init : MethodName := ⟨RX5, "<init>", "(II)V"⟩
abbrev cX5_share : ByteArray := prog_7_method_2_code
def yX5_share : MethodName := ⟨RX5, "share", "(I)I"⟩
abbrev cX5_greeting : ByteArray := prog_7_method_3_code
def yX5_greeting : MethodName := ⟨RX5, "greeting", "(LRegularRally;)I"⟩
def RX6 : String := "RegularRally$OneWay"
def TX6 : u_T := fun k => match k with
  | 0 => ("RegularRally$Road", "a", "I", true)
  | 1 => ("RegularRally$Road", "b", "I", true)
  | 2 => ("RegularRally$Road", "length", "I", true)
  | 3 => ("RegularRally$Road", "kind", "I", true)
  | _ => ("RegularRally$Road", "isShut", "Z", false)
def tyX6 : Nat → FieldType := fun k => match k with
  | 0 => .int
  | 1 => .int
  | 2 => .int
  | 3 => .int
  | _ => .boolean
abbrev wsX60 : List Cond := u_ws RX6 TX6 5
theorem nmX6 : ∀ a, a < 5 → ∀ b, b < 5 → a ≠ b → (TX6 a).2.1 ≠ (TX6 b).2.1 := by decide +kernel
theorem tyX6_ok : ∀ k, k < 5 → parseFieldDescriptor (TX6 k).2.2.1 = some (tyX6 k) := by decide +kernel
abbrev cX6_init : ByteArray := prog_8_method_1_code
def yX6_init : MethodName := ⟨RX6, "<init>", "(III)V"⟩
abbrev cX6_endFrom : ByteArray := prog_8_method_2_code
def yX6_endFrom : MethodName := ⟨RX6, "endFrom", "(I)I"⟩
abbrev cX6_telling : ByteArray := prog_8_method_3_code
def yX6_telling : MethodName := ⟨RX6, "telling", "(LRegularRally;)I"⟩
def RX7 : String := "RegularRally$Road"
def TX7 : u_T := fun k => match k with
  | 0 => ("RegularRally$Road", "a", "I", true)
  | 1 => ("RegularRally$Road", "b", "I", true)
  | 2 => ("RegularRally$Road", "length", "I", true)
  | 3 => ("RegularRally$Road", "kind", "I", true)
  | _ => ("RegularRally$Road", "isShut", "Z", false)
def tyX7 : Nat → FieldType := fun k => match k with
  | 0 => .int
  | 1 => .int
  | 2 => .int
  | 3 => .int
  | _ => .boolean
abbrev wsX70 : List Cond := u_ws RX7 TX7 5
theorem nmX7 : ∀ a, a < 5 → ∀ b, b < 5 → a ≠ b → (TX7 a).2.1 ≠ (TX7 b).2.1 := by decide +kernel
theorem tyX7_ok : ∀ k, k < 5 → parseFieldDescriptor (TX7 k).2.2.1 = some (tyX7 k) := by decide +kernel
abbrev cX7_init : ByteArray := prog_9_method_1_code
def yX7_init : MethodName := ⟨RX7, "<init>", "(IIII)V"⟩
abbrev cX7_isOpen : ByteArray := prog_9_method_2_code
def yX7_isOpen : MethodName := ⟨RX7, "isOpen", "()Z"⟩
abbrev cX7_endFrom : ByteArray := prog_9_method_3_code
def yX7_endFrom : MethodName := ⟨RX7, "endFrom", "(I)I"⟩
abbrev cX7_telling : ByteArray := prog_9_method_4_code
def yX7_telling : MethodName := ⟨RX7, "telling", "(LRegularRally;)I"⟩
def RX8 : String := "RegularRally$Search"
def TX8 : u_T := fun k => match k with
  | 0 => ("RegularRally$Search", "exits", "[I", true)
  | 1 => ("RegularRally$Search", "exitRoads", "[I", true)
  | 2 => ("RegularRally$Search", "exitEnds", "[I", true)
  | 3 => ("RegularRally$Search", "exitLengths", "[I", true)
  | 4 => ("RegularRally$Search", "sought", "LRegularRally$Book;", false)
  | 5 => ("RegularRally$Search", "row", "[I", true)
  | 6 => ("RegularRally$Search", "rowRoads", "I", false)
  | 7 => ("RegularRally$Search", "trials", "I", false)
  | 8 => ("RegularRally$Search", "isSpent", "Z", false)
  | 9 => ("RegularRally$Search", "best", "[I", true)
  | 10 => ("RegularRally$Search", "bestCount", "I", false)
  | 11 => ("RegularRally$Search", "bestSum", "I", false)
  | _ => ("RegularRally$Search", "waysFound", "I", false)
def tyX8 : Nat → FieldType := fun k => match k with
  | 0 => .array .int
  | 1 => .array .int
  | 2 => .array .int
  | 3 => .array .int
  | 4 => .object "RegularRally$Book"
  | 5 => .array .int
  | 6 => .int
  | 7 => .int
  | 8 => .boolean
  | 9 => .array .int
  | 10 => .int
  | 11 => .int
  | _ => .int
abbrev wsX80 : List Cond := u_ws RX8 TX8 13
theorem nmX8 : ∀ a, a < 13 → ∀ b, b < 13 → a ≠ b → (TX8 a).2.1 ≠ (TX8 b).2.1 := by decide +kernel
theorem tyX8_ok : ∀ k, k < 13 → parseFieldDescriptor (TX8 k).2.2.1 = some (tyX8 k) := by decide +kernel
abbrev cX8_init : ByteArray := prog_10_method_1_code
def yX8_init : MethodName := ⟨RX8, "<init>", "()V"⟩
abbrev cX8_begin : ByteArray := prog_10_method_2_code
def yX8_begin : MethodName := ⟨RX8, "begin", "([LRegularRally$Road;ILRegularRally$Book;)V"⟩
abbrev cX8_addExit : ByteArray := prog_10_method_3_code
def yX8_addExit : MethodName := ⟨RX8, "addExit", "(IILRegularRally$Road;)V"⟩
abbrev cX8_isInRow : ByteArray := prog_10_method_4_code
def yX8_isInRow : MethodName := ⟨RX8, "isInRow", "(I)Z"⟩
abbrev cX8_isTooLong : ByteArray := prog_10_method_5_code
def yX8_isTooLong : MethodName := ⟨RX8, "isTooLong", "(I)Z"⟩
abbrev cX8_found : ByteArray := prog_10_method_6_code
def yX8_found : MethodName := ⟨RX8, "found", "(II)V"⟩
def RX9 : String := "RegularRally$Sheet"
def TX9 : u_T := fun k => match k with
  | 0 => ("RegularRally$Sheet", "cells", "[I", true)
  | 1 => ("RegularRally$Sheet", "hasRow", "Z", false)
  | 2 => ("RegularRally$Sheet", "lane", "I", false)
  | _ => ("RegularRally$Sheet", "count", "I", false)
def tyX9 : Nat → FieldType := fun k => match k with
  | 0 => .array .int
  | 1 => .boolean
  | 2 => .int
  | _ => .int
abbrev wsX90 : List Cond := u_ws RX9 TX9 4
theorem nmX9 : ∀ a, a < 4 → ∀ b, b < 4 → a ≠ b → (TX9 a).2.1 ≠ (TX9 b).2.1 := by decide +kernel
theorem tyX9_ok : ∀ k, k < 4 → parseFieldDescriptor (TX9 k).2.2.1 = some (tyX9 k) := by decide +kernel
abbrev cX9_init : ByteArray := prog_11_method_1_code
def yX9_init : MethodName := ⟨RX9, "<init>", "()V"⟩
abbrev cX9_begin : ByteArray := prog_11_method_2_code
def yX9_begin : MethodName := ⟨RX9, "begin", "(II)V"⟩
abbrev cX9_holds : ByteArray := prog_11_method_3_code
def yX9_holds : MethodName := ⟨RX9, "holds", "(II)Z"⟩
abbrev cX9_faultOfCells : ByteArray := prog_11_method_4_code
def yX9_faultOfCells : MethodName := ⟨RX9, "faultOfCells", "(III)I"⟩
def RX10 : String := "RegularRally$Way"
def TX10 : u_T := fun k => match k with
  | 0 => ("RegularRally$Way", "row", "[I", true)
  | 1 => ("RegularRally$Way", "ends", "[I", true)
  | 2 => ("RegularRally$Way", "count", "I", false)
  | 3 => ("RegularRally$Way", "metres", "I", false)
  | 4 => ("RegularRally$Way", "speedPlaces", "[I", true)
  | 5 => ("RegularRally$Way", "speeds", "[I", true)
  | _ => ("RegularRally$Way", "speedCount", "I", false)
def tyX10 : Nat → FieldType := fun k => match k with
  | 0 => .array .int
  | 1 => .array .int
  | 2 => .int
  | 3 => .int
  | 4 => .array .int
  | 5 => .array .int
  | _ => .int
abbrev wsX100 : List Cond := u_ws RX10 TX10 7
theorem nmX10 : ∀ a, a < 7 → ∀ b, b < 7 → a ≠ b → (TX10 a).2.1 ≠ (TX10 b).2.1 := by decide +kernel
theorem tyX10_ok : ∀ k, k < 7 → parseFieldDescriptor (TX10 k).2.2.1 = some (tyX10 k) := by decide +kernel
abbrev cX10_init : ByteArray := prog_12_method_1_code
def yX10_init : MethodName := ⟨RX10, "<init>", "()V"⟩
abbrev cX10_begin : ByteArray := prog_12_method_2_code
def yX10_begin : MethodName := ⟨RX10, "begin", "()V"⟩
abbrev cX10_addRoad : ByteArray := prog_12_method_3_code
def yX10_addRoad : MethodName := ⟨RX10, "addRoad", "(II)V"⟩
abbrev cX10_placeOfRoad : ByteArray := prog_12_method_4_code
def yX10_placeOfRoad : MethodName := ⟨RX10, "placeOfRoad", "(I)I"⟩
abbrev cX10_roadUnder : ByteArray := prog_12_method_5_code
def yX10_roadUnder : MethodName := ⟨RX10, "roadUnder", "(I)I"⟩
abbrev cX10_addSpeed : ByteArray := prog_12_method_6_code
def yX10_addSpeed : MethodName := ⟨RX10, "addSpeed", "(II)V"⟩
abbrev cX10_hasFirstSpeed : ByteArray := prog_12_method_7_code
def yX10_hasFirstSpeed : MethodName := ⟨RX10, "hasFirstSpeed", "()Z"⟩
abbrev cX10_speedFrom : ByteArray := prog_12_method_8_code
def yX10_speedFrom : MethodName := ⟨RX10, "speedFrom", "(I)I"⟩
abbrev cX10_dueAt : ByteArray := prog_12_method_9_code
def yX10_dueAt : MethodName := ⟨RX10, "dueAt", "(I)J"⟩
abbrev cX10_endOfStretch : ByteArray := prog_12_method_10_code
def yX10_endOfStretch : MethodName := ⟨RX10, "endOfStretch", "(II)I"⟩
def RX11 : String := "RegularRally"
def TX11 : u_T := fun k => match k with
  | 0 => ("RegularRally", "roads", "[LRegularRally$Road;", true)
  | 1 => ("RegularRally", "roadCount", "I", false)
  | 2 => ("RegularRally", "theBook", "LRegularRally$Book;", true)
  | 3 => ("RegularRally", "search", "LRegularRally$Search;", true)
  | 4 => ("RegularRally", "way", "LRegularRally$Way;", true)
  | 5 => ("RegularRally", "controls", "[LRegularRally$Control;", true)
  | 6 => ("RegularRally", "controlCount", "I", false)
  | 7 => ("RegularRally", "cars", "[LRegularRally$Car;", true)
  | 8 => ("RegularRally", "carCount", "I", false)
  | 9 => ("RegularRally", "sheets", "[LRegularRally$Sheet;", true)
  | 10 => ("RegularRally", "traceSum", "I", false)
  | _ => ("RegularRally", "latestFault", "I", false)
def tyX11 : Nat → FieldType := fun k => match k with
  | 0 => .array (.object "RegularRally$Road")
  | 1 => .int
  | 2 => .object "RegularRally$Book"
  | 3 => .object "RegularRally$Search"
  | 4 => .object "RegularRally$Way"
  | 5 => .array (.object "RegularRally$Control")
  | 6 => .int
  | 7 => .array (.object "RegularRally$Car")
  | 8 => .int
  | 9 => .array (.object "RegularRally$Sheet")
  | 10 => .int
  | _ => .int
abbrev wsX110 : List Cond := u_ws RX11 TX11 12
theorem nmX11 : ∀ a, a < 12 → ∀ b, b < 12 → a ≠ b → (TX11 a).2.1 ≠ (TX11 b).2.1 := by decide +kernel
theorem tyX11_ok : ∀ k, k < 12 → parseFieldDescriptor (TX11 k).2.2.1 = some (tyX11 k) := by decide +kernel
abbrev cX11_init : ByteArray := prog_1_method_1_code
def yX11_init : MethodName := ⟨RX11, "<init>", "()V"⟩
abbrev cX11_road : ByteArray := prog_1_method_2_code
def yX11_road : MethodName := ⟨RX11, "road", "(IIII)I"⟩
abbrev cX11_shut : ByteArray := prog_1_method_3_code
def yX11_shut : MethodName := ⟨RX11, "shut", "(IZ)I"⟩
abbrev cX11_wet : ByteArray := prog_1_method_4_code
def yX11_wet : MethodName := ⟨RX11, "wet", "(IZ)I"⟩
abbrev cX11_about : ByteArray := prog_1_method_5_code
def yX11_about : MethodName := ⟨RX11, "about", "(II)I"⟩
abbrev cX11_book : ByteArray := prog_1_method_6_code
def yX11_book : MethodName := ⟨RX11, "book", "(IIII)I"⟩
abbrev cX11_ways : ByteArray := prog_1_method_7_code
def yX11_ways : MethodName := ⟨RX11, "ways", "()I"⟩
abbrev cX11_lay : ByteArray := prog_1_method_8_code
def yX11_lay : MethodName := ⟨RX11, "lay", "()I"⟩
abbrev cX11_laid : ByteArray := prog_1_method_9_code
def yX11_laid : MethodName := ⟨RX11, "laid", "(I)I"⟩
abbrev cX11_proof : ByteArray := prog_1_method_10_code
def yX11_proof : MethodName := ⟨RX11, "proof", "(IIII)J"⟩
abbrev cX11_speed : ByteArray := prog_1_method_11_code
def yX11_speed : MethodName := ⟨RX11, "speed", "(II)I"⟩
abbrev cX11_due : ByteArray := prog_1_method_12_code
def yX11_due : MethodName := ⟨RX11, "due", "(I)J"⟩
abbrev cX11_roadAt : ByteArray := prog_1_method_13_code
def yX11_roadAt : MethodName := ⟨RX11, "roadAt", "(I)I"⟩
abbrev cX11_control : ByteArray := prog_1_method_14_code
def yX11_control : MethodName := ⟨RX11, "control", "(I)I"⟩
abbrev cX11_watch : ByteArray := prog_1_method_15_code
def yX11_watch : MethodName := ⟨RX11, "watch", "(IIIII)I"⟩
abbrev cX11_right : ByteArray := prog_1_method_16_code
def yX11_right : MethodName := ⟨RX11, "right", "(II)J"⟩
abbrev cX11_strike : ByteArray := prog_1_method_17_code
def yX11_strike : MethodName := ⟨RX11, "strike", "(IZ)I"⟩
abbrev cX11_car : ByteArray := prog_1_method_18_code
def yX11_car : MethodName := ⟨RX11, "car", "(II)I"⟩
abbrev cX11_clock : ByteArray := prog_1_method_19_code
def yX11_clock : MethodName := ⟨RX11, "clock", "(III)I"⟩
abbrev cX11_allow : ByteArray := prog_1_method_20_code
def yX11_allow : MethodName := ⟨RX11, "allow", "(III)I"⟩
abbrev cX11_error : ByteArray := prog_1_method_21_code
def yX11_error : MethodName := ⟨RX11, "error", "(II)J"⟩
abbrev cX11_points : ByteArray := prog_1_method_22_code
def yX11_points : MethodName := ⟨RX11, "points", "(II)I"⟩
abbrev cX11_result : ByteArray := prog_1_method_23_code
def yX11_result : MethodName := ⟨RX11, "result", "(II)I"⟩
abbrev cX11_sheet : ByteArray := prog_1_method_24_code
def yX11_sheet : MethodName := ⟨RX11, "sheet", "(III)I"⟩
abbrev cX11_lose : ByteArray := prog_1_method_25_code
def yX11_lose : MethodName := ⟨RX11, "lose", "(I)I"⟩
abbrev cX11_put : ByteArray := prog_1_method_26_code
def yX11_put : MethodName := ⟨RX11, "put", "(III)I"⟩
abbrev cX11_cell : ByteArray := prog_1_method_27_code
def yX11_cell : MethodName := ⟨RX11, "cell", "(III)J"⟩
abbrev cX11_copy : ByteArray := prog_1_method_28_code
def yX11_copy : MethodName := ⟨RX11, "copy", "(IIIII)I"⟩
abbrev cX11_tell : ByteArray := prog_1_method_29_code
def yX11_tell : MethodName := ⟨RX11, "tell", "(I)I"⟩
abbrev cX11_greet : ByteArray := prog_1_method_30_code
def yX11_greet : MethodName := ⟨RX11, "greet", "(I)I"⟩
abbrev cX11_as : ByteArray := prog_1_method_31_code
def yX11_as : MethodName := ⟨RX11, "as", "(II)I"⟩
abbrev cX11_trace : ByteArray := prog_1_method_32_code
def yX11_trace : MethodName := ⟨RX11, "trace", "()I"⟩
abbrev cX11_fault : ByteArray := prog_1_method_33_code
def yX11_fault : MethodName := ⟨RX11, "fault", "()I"⟩
abbrev cX11_told : ByteArray := prog_1_method_34_code
def yX11_told : MethodName := ⟨RX11, "told", "(I)I"⟩
abbrev cX11_isWithin : ByteArray := prog_1_method_35_code
def yX11_isWithin : MethodName := ⟨RX11, "isWithin", "(III)Z"⟩
abbrev cX11_isSpot : ByteArray := prog_1_method_36_code
def yX11_isSpot : MethodName := ⟨RX11, "isSpot", "(I)Z"⟩
abbrev cX11_isLane : ByteArray := prog_1_method_37_code
def yX11_isLane : MethodName := ⟨RX11, "isLane", "(I)Z"⟩
abbrev cX11_isTime : ByteArray := prog_1_method_38_code
def yX11_isTime : MethodName := ⟨RX11, "isTime", "(I)Z"⟩
abbrev cX11_isSpanOfTime : ByteArray := prog_1_method_39_code
def yX11_isSpanOfTime : MethodName := ⟨RX11, "isSpanOfTime", "(II)Z"⟩
abbrev cX11_roadOf : ByteArray := prog_1_method_40_code
def yX11_roadOf : MethodName := ⟨RX11, "roadOf", "(I)LRegularRally$Road;"⟩
abbrev cX11_controlOf : ByteArray := prog_1_method_41_code
def yX11_controlOf : MethodName := ⟨RX11, "controlOf", "(I)LRegularRally$Control;"⟩
abbrev cX11_carOf : ByteArray := prog_1_method_42_code
def yX11_carOf : MethodName := ⟨RX11, "carOf", "(I)LRegularRally$Car;"⟩
abbrev cX11_sheetOf : ByteArray := prog_1_method_43_code
def yX11_sheetOf : MethodName := ⟨RX11, "sheetOf", "(I)LRegularRally$Sheet;"⟩
abbrev cX11_answerOfFault : ByteArray := prog_1_method_44_code
def yX11_answerOfFault : MethodName := ⟨RX11, "answerOfFault", "(I)I"⟩
abbrev cX11_lostByFault : ByteArray := prog_1_method_45_code
def yX11_lostByFault : MethodName := ⟨RX11, "lostByFault", "(I)J"⟩
abbrev cX11_leaveNumber : ByteArray := prog_1_method_46_code
def yX11_leaveNumber : MethodName := ⟨RX11, "leaveNumber", "(I)V"⟩
abbrev cX11_newRoad : ByteArray := prog_1_method_47_code
def yX11_newRoad : MethodName := ⟨RX11, "newRoad", "(IIII)LRegularRally$Road;"⟩
abbrev cX11_areBookSpots : ByteArray := prog_1_method_48_code
def yX11_areBookSpots : MethodName := ⟨RX11, "areBookSpots", "([III)Z"⟩
abbrev cX11_searchTheMap : ByteArray := prog_1_method_49_code
def yX11_searchTheMap : MethodName := ⟨RX11, "searchTheMap", "()V"⟩
abbrev cX11_goOn : ByteArray := prog_1_method_50_code
def yX11_goOn : MethodName := ⟨RX11, "goOn", "(LRegularRally$Search;IIII)V"⟩
abbrev cX11_layTheBest : ByteArray := prog_1_method_51_code
def yX11_layTheBest : MethodName := ⟨RX11, "layTheBest", "()V"⟩
abbrev cX11_proofOfRow : ByteArray := prog_1_method_52_code
def yX11_proofOfRow : MethodName := ⟨RX11, "proofOfRow", "([III)J"⟩
abbrev cX11_isControlAt : ByteArray := prog_1_method_53_code
def yX11_isControlAt : MethodName := ⟨RX11, "isControlAt", "(I)Z"⟩
abbrev cX11_newCar : ByteArray := prog_1_method_54_code
def yX11_newCar : MethodName := ⟨RX11, "newCar", "(III)LRegularRally$Car;"⟩
abbrev cX11_isOfClass : ByteArray := prog_1_method_55_code
def yX11_isOfClass : MethodName := ⟨RX11, "isOfClass", "(LRegularRally$Car;I)Z"⟩
abbrev cX11_errorOf : ByteArray := prog_1_method_56_code
def yX11_errorOf : MethodName := ⟨RX11, "errorOf", "(LRegularRally$Car;I)J"⟩
abbrev cX11_carriedTo : ByteArray := prog_1_method_57_code
def yX11_carriedTo : MethodName := ⟨RX11, "carriedTo", "(LRegularRally$Car;I)I"⟩
abbrev cX11_pointsOf : ByteArray := prog_1_method_58_code
def yX11_pointsOf : MethodName := ⟨RX11, "pointsOf", "(LRegularRally$Car;I)I"⟩
abbrev cX11_pointsForError : ByteArray := prog_1_method_59_code
def yX11_pointsForError : MethodName := ⟨RX11, "pointsForError", "(J)I"⟩
abbrev cX11_isOutOfOrder : ByteArray := prog_1_method_60_code
def yX11_isOutOfOrder : MethodName := ⟨RX11, "isOutOfOrder", "(LRegularRally$Car;I)Z"⟩
abbrev cX11_totalOf : ByteArray := prog_1_method_61_code
def yX11_totalOf : MethodName := ⟨RX11, "totalOf", "(LRegularRally$Car;)I"⟩
abbrev cX11_rankOf : ByteArray := prog_1_method_62_code
def yX11_rankOf : MethodName := ⟨RX11, "rankOf", "(LRegularRally$Car;)I"⟩
abbrev cX11_isBetterOfTie : ByteArray := prog_1_method_63_code
def yX11_isBetterOfTie : MethodName := ⟨RX11, "isBetterOfTie", "(LRegularRally$Car;LRegularRally$Car;)Z"⟩
abbrev cX11_missedBy : ByteArray := prog_1_method_64_code
def yX11_missedBy : MethodName := ⟨RX11, "missedBy", "(LRegularRally$Car;)I"⟩
abbrev cX11_outOfOrderBy : ByteArray := prog_1_method_65_code
def yX11_outOfOrderBy : MethodName := ⟨RX11, "outOfOrderBy", "(LRegularRally$Car;)I"⟩
abbrev cX11_cutToLane : ByteArray := prog_1_method_66_code
def yX11_cutToLane : MethodName := ⟨RX11, "cutToLane", "(II)I"⟩
def RX12 : String := "RegularRallyModel"
def TX12 : u_T := fun k => match k with
  | 0 => ("RegularRallyModel", "fault", "I", false)
  | 1 => ("RegularRallyModel", "roads", "I", false)
  | 2 => ("RegularRallyModel", "from", "[I", true)
  | 3 => ("RegularRallyModel", "to", "[I", true)
  | 4 => ("RegularRallyModel", "length", "[I", true)
  | 5 => ("RegularRallyModel", "kind", "[I", true)
  | 6 => ("RegularRallyModel", "isShut", "[Z", true)
  | 7 => ("RegularRallyModel", "isWet", "[Z", true)
  | 8 => ("RegularRallyModel", "sheetSize", "[I", true)
  | 9 => ("RegularRallyModel", "sheetLane", "[I", true)
  | 10 => ("RegularRallyModel", "sheet", "[I", true)
  | 11 => ("RegularRallyModel", "hands", "[I", true)
  | 12 => ("RegularRallyModel", "spots", "I", false)
  | 13 => ("RegularRallyModel", "book", "[I", true)
  | 14 => ("RegularRallyModel", "trials", "I", false)
  | 15 => ("RegularRallyModel", "bestSum", "I", false)
  | 16 => ("RegularRallyModel", "bestMany", "I", false)
  | 17 => ("RegularRallyModel", "best", "[I", true)
  | 18 => ("RegularRallyModel", "rivals", "I", false)
  | 19 => ("RegularRallyModel", "deep", "I", false)
  | 20 => ("RegularRallyModel", "row", "[I", true)
  | 21 => ("RegularRallyModel", "spot", "[I", true)
  | 22 => ("RegularRallyModel", "found", "[I", true)
  | 23 => ("RegularRallyModel", "sum", "[I", true)
  | 24 => ("RegularRallyModel", "laidMany", "I", false)
  | 25 => ("RegularRallyModel", "metres", "I", false)
  | 26 => ("RegularRallyModel", "laid", "[I", true)
  | 27 => ("RegularRallyModel", "speeds", "I", false)
  | 28 => ("RegularRallyModel", "speedFrom", "[I", true)
  | 29 => ("RegularRallyModel", "speed", "[I", true)
  | 30 => ("RegularRallyModel", "controls", "I", false)
  | 31 => ("RegularRallyModel", "placeOf", "[I", true)
  | 32 => ("RegularRallyModel", "isStruck", "[Z", true)
  | 33 => ("RegularRallyModel", "isChecked", "[Z", true)
  | 34 => ("RegularRallyModel", "checks", "[I", true)
  | 35 => ("RegularRallyModel", "cars", "I", false)
  | 36 => ("RegularRallyModel", "start", "[I", true)
  | 37 => ("RegularRallyModel", "sort", "[I", true)
  | 38 => ("RegularRallyModel", "clocked", "I", false)
  | 39 => ("RegularRallyModel", "clockedAs", "[I", true)
  | 40 => ("RegularRallyModel", "time", "[I", true)
  | 41 => ("RegularRallyModel", "allowance", "[I", true)
  | _ => ("RegularRallyModel", "trace", "I", false)
def tyX12 : Nat → FieldType := fun k => match k with
  | 0 => .int
  | 1 => .int
  | 2 => .array .int
  | 3 => .array .int
  | 4 => .array .int
  | 5 => .array .int
  | 6 => .array .boolean
  | 7 => .array .boolean
  | 8 => .array .int
  | 9 => .array .int
  | 10 => .array .int
  | 11 => .array .int
  | 12 => .int
  | 13 => .array .int
  | 14 => .int
  | 15 => .int
  | 16 => .int
  | 17 => .array .int
  | 18 => .int
  | 19 => .int
  | 20 => .array .int
  | 21 => .array .int
  | 22 => .array .int
  | 23 => .array .int
  | 24 => .int
  | 25 => .int
  | 26 => .array .int
  | 27 => .int
  | 28 => .array .int
  | 29 => .array .int
  | 30 => .int
  | 31 => .array .int
  | 32 => .array .boolean
  | 33 => .array .boolean
  | 34 => .array .int
  | 35 => .int
  | 36 => .array .int
  | 37 => .array .int
  | 38 => .int
  | 39 => .array .int
  | 40 => .array .int
  | 41 => .array .int
  | _ => .int
abbrev wsX120 : List Cond := u_ws RX12 TX12 43
theorem nmX12 : ∀ a, a < 43 → ∀ b, b < 43 → a ≠ b → (TX12 a).2.1 ≠ (TX12 b).2.1 := by decide +kernel
theorem tyX12_ok : ∀ k, k < 43 → parseFieldDescriptor (TX12 k).2.2.1 = some (tyX12 k) := by decide +kernel
abbrev cX12_init : ByteArray := prog_14_method_1_code
def yX12_init : MethodName := ⟨RX12, "<init>", "()V"⟩
abbrev cX12_in : ByteArray := prog_14_method_2_code
def yX12_in : MethodName := ⟨RX12, "in", "(JJJ)Z"⟩
abbrev cX12_lost : ByteArray := prog_14_method_3_code
def yX12_lost : MethodName := ⟨RX12, "lost", "()J"⟩
abbrev cX12_refused : ByteArray := prog_14_method_4_code
def yX12_refused : MethodName := ⟨RX12, "refused", "(I)I"⟩
abbrev cX12_failed : ByteArray := prog_14_method_5_code
def yX12_failed : MethodName := ⟨RX12, "failed", "(I)I"⟩
abbrev cX12_failedLong : ByteArray := prog_14_method_6_code
def yX12_failedLong : MethodName := ⟨RX12, "failedLong", "(I)J"⟩
abbrev cX12_noRoad : ByteArray := prog_14_method_7_code
def yX12_noRoad : MethodName := ⟨RX12, "noRoad", "(I)Z"⟩
abbrev cX12_isSpot : ByteArray := prog_14_method_8_code
def yX12_isSpot : MethodName := ⟨RX12, "isSpot", "(I)Z"⟩
abbrev cX12_road : ByteArray := prog_14_method_9_code
def yX12_road : MethodName := ⟨RX12, "road", "(IIII)I"⟩
abbrev cX12_shut : ByteArray := prog_14_method_10_code
def yX12_shut : MethodName := ⟨RX12, "shut", "(IZ)I"⟩
abbrev cX12_wet : ByteArray := prog_14_method_11_code
def yX12_wet : MethodName := ⟨RX12, "wet", "(IZ)I"⟩
abbrev cX12_leads : ByteArray := prog_14_method_12_code
def yX12_leads : MethodName := ⟨RX12, "leads", "(II)I"⟩
abbrev cX12_about : ByteArray := prog_14_method_13_code
def yX12_about : MethodName := ⟨RX12, "about", "(II)I"⟩
abbrev cX12_noSheet : ByteArray := prog_14_method_14_code
def yX12_noSheet : MethodName := ⟨RX12, "noSheet", "(I)Z"⟩
abbrev cX12_sheet : ByteArray := prog_14_method_15_code
def yX12_sheet : MethodName := ⟨RX12, "sheet", "(III)I"⟩
abbrev cX12_lose : ByteArray := prog_14_method_16_code
def yX12_lose : MethodName := ⟨RX12, "lose", "(I)I"⟩
abbrev cX12_noCell : ByteArray := prog_14_method_17_code
def yX12_noCell : MethodName := ⟨RX12, "noCell", "(II)I"⟩
abbrev cX12_put : ByteArray := prog_14_method_18_code
def yX12_put : MethodName := ⟨RX12, "put", "(III)I"⟩
abbrev cX12_cell : ByteArray := prog_14_method_19_code
def yX12_cell : MethodName := ⟨RX12, "cell", "(III)J"⟩
abbrev cX12_isBeyond : ByteArray := prog_14_method_20_code
def yX12_isBeyond : MethodName := ⟨RX12, "isBeyond", "(III)Z"⟩
abbrev cX12_copy : ByteArray := prog_14_method_21_code
def yX12_copy : MethodName := ⟨RX12, "copy", "(IIIII)I"⟩
abbrev cX12_faultOf : ByteArray := prog_14_method_22_code
def yX12_faultOf : MethodName := ⟨RX12, "faultOf", "(IIII)I"⟩
abbrev cX12_isBook : ByteArray := prog_14_method_23_code
def yX12_isBook : MethodName := ⟨RX12, "isBook", "(III)Z"⟩
abbrev cX12_book : ByteArray := prog_14_method_24_code
def yX12_book : MethodName := ⟨RX12, "book", "(IIII)I"⟩
abbrev cX12_isIn : ByteArray := prog_14_method_25_code
def yX12_isIn : MethodName := ⟨RX12, "isIn", "(I)Z"⟩
abbrev cX12_judge : ByteArray := prog_14_method_26_code
def yX12_judge : MethodName := ⟨RX12, "judge", "()V"⟩
abbrev cX12_search : ByteArray := prog_14_method_27_code
def yX12_search : MethodName := ⟨RX12, "search", "()Z"⟩
abbrev cX12_ways : ByteArray := prog_14_method_28_code
def yX12_ways : MethodName := ⟨RX12, "ways", "()I"⟩
abbrev cX12_lay : ByteArray := prog_14_method_29_code
def yX12_lay : MethodName := ⟨RX12, "lay", "()I"⟩
abbrev cX12_laid : ByteArray := prog_14_method_30_code
def yX12_laid : MethodName := ⟨RX12, "laid", "(I)I"⟩
abbrev cX12_wasAhead : ByteArray := prog_14_method_31_code
def yX12_wasAhead : MethodName := ⟨RX12, "wasAhead", "(III)Z"⟩
abbrev cX12_proved : ByteArray := prog_14_method_32_code
def yX12_proved : MethodName := ⟨RX12, "proved", "(III)J"⟩
abbrev cX12_proof : ByteArray := prog_14_method_33_code
def yX12_proof : MethodName := ⟨RX12, "proof", "(IIII)J"⟩
abbrev cX12_speed : ByteArray := prog_14_method_34_code
def yX12_speed : MethodName := ⟨RX12, "speed", "(II)I"⟩
abbrev cX12_hasDue : ByteArray := prog_14_method_35_code
def yX12_hasDue : MethodName := ⟨RX12, "hasDue", "()Z"⟩
abbrev cX12_dueAt : ByteArray := prog_14_method_36_code
def yX12_dueAt : MethodName := ⟨RX12, "dueAt", "(I)J"⟩
abbrev cX12_due : ByteArray := prog_14_method_37_code
def yX12_due : MethodName := ⟨RX12, "due", "(I)J"⟩
abbrev cX12_roadAt : ByteArray := prog_14_method_38_code
def yX12_roadAt : MethodName := ⟨RX12, "roadAt", "(I)I"⟩
abbrev cX12_noControl : ByteArray := prog_14_method_39_code
def yX12_noControl : MethodName := ⟨RX12, "noControl", "(I)Z"⟩
abbrev cX12_control : ByteArray := prog_14_method_40_code
def yX12_control : MethodName := ⟨RX12, "control", "(I)I"⟩
abbrev cX12_isTime : ByteArray := prog_14_method_41_code
def yX12_isTime : MethodName := ⟨RX12, "isTime", "(I)Z"⟩
abbrev cX12_watch : ByteArray := prog_14_method_42_code
def yX12_watch : MethodName := ⟨RX12, "watch", "(IIIII)I"⟩
abbrev cX12_rightAt : ByteArray := prog_14_method_43_code
def yX12_rightAt : MethodName := ⟨RX12, "rightAt", "(IJ)J"⟩
abbrev cX12_right : ByteArray := prog_14_method_44_code
def yX12_right : MethodName := ⟨RX12, "right", "(II)J"⟩
abbrev cX12_strike : ByteArray := prog_14_method_45_code
def yX12_strike : MethodName := ⟨RX12, "strike", "(IZ)I"⟩
abbrev cX12_noCar : ByteArray := prog_14_method_46_code
def yX12_noCar : MethodName := ⟨RX12, "noCar", "(I)Z"⟩
abbrev cX12_car : ByteArray := prog_14_method_47_code
def yX12_car : MethodName := ⟨RX12, "car", "(II)I"⟩
abbrev cX12_clock : ByteArray := prog_14_method_48_code
def yX12_clock : MethodName := ⟨RX12, "clock", "(III)I"⟩
abbrev cX12_allow : ByteArray := prog_14_method_49_code
def yX12_allow : MethodName := ⟨RX12, "allow", "(III)I"⟩
abbrev cX12_carried : ByteArray := prog_14_method_50_code
def yX12_carried : MethodName := ⟨RX12, "carried", "(II)J"⟩
abbrev cX12_errorAt : ByteArray := prog_14_method_51_code
def yX12_errorAt : MethodName := ⟨RX12, "errorAt", "(II)J"⟩
abbrev cX12_error : ByteArray := prog_14_method_52_code
def yX12_error : MethodName := ⟨RX12, "error", "(II)J"⟩
abbrev cX12_isOutOfOrder : ByteArray := prog_14_method_53_code
def yX12_isOutOfOrder : MethodName := ⟨RX12, "isOutOfOrder", "(II)Z"⟩
abbrev cX12_pointsAt : ByteArray := prog_14_method_54_code
def yX12_pointsAt : MethodName := ⟨RX12, "pointsAt", "(II)I"⟩
abbrev cX12_points : ByteArray := prog_14_method_55_code
def yX12_points : MethodName := ⟨RX12, "points", "(II)I"⟩
abbrev cX12_totalOf : ByteArray := prog_14_method_56_code
def yX12_totalOf : MethodName := ⟨RX12, "totalOf", "(I)I"⟩
abbrev cX12_isBetter : ByteArray := prog_14_method_57_code
def yX12_isBetter : MethodName := ⟨RX12, "isBetter", "(II)Z"⟩
abbrev cX12_result : ByteArray := prog_14_method_58_code
def yX12_result : MethodName := ⟨RX12, "result", "(II)I"⟩
abbrev cX12_traced : ByteArray := prog_14_method_59_code
def yX12_traced : MethodName := ⟨RX12, "traced", "(I)V"⟩
abbrev cX12_tell : ByteArray := prog_14_method_60_code
def yX12_tell : MethodName := ⟨RX12, "tell", "(I)I"⟩
abbrev cX12_greet : ByteArray := prog_14_method_61_code
def yX12_greet : MethodName := ⟨RX12, "greet", "(I)I"⟩
abbrev cX12_as : ByteArray := prog_14_method_62_code
def yX12_as : MethodName := ⟨RX12, "as", "(II)I"⟩
abbrev cX12_trace : ByteArray := prog_14_method_63_code
def yX12_trace : MethodName := ⟨RX12, "trace", "()I"⟩
abbrev cX12_fault : ByteArray := prog_14_method_64_code
def yX12_fault : MethodName := ⟨RX12, "fault", "()I"⟩
abbrev cX12_told : ByteArray := prog_14_method_65_code
def yX12_told : MethodName := ⟨RX12, "told", "(I)I"⟩
def RJ9 : String := "java/lang/Math"
def TJ9 : u_T := fun k => match k with
  | _ => ("", "", "", false)
def tyJ9 : Nat → FieldType := fun k => match k with
  | _ => .int
abbrev wsJ90 : List Cond := u_ws RJ9 TJ9 0
theorem nmJ9 : ∀ a, a < 0 → ∀ b, b < 0 → a ≠ b → (TJ9 a).2.1 ≠ (TJ9 b).2.1 := by decide +kernel
theorem tyJ9_ok : ∀ k, k < 0 → parseFieldDescriptor (TJ9 k).2.2.1 = some (tyJ9 k) := by decide +kernel
abbrev cJ9_abs_067f4 : ByteArray := prog_15_method_61_code
def yJ9_abs_067f4 : MethodName := ⟨RJ9, "abs", "(J)J"⟩
abbrev cJ9_max_f86c9 : ByteArray := prog_15_method_66_code
def yJ9_max_f86c9 : MethodName := ⟨RJ9, "max", "(JJ)J"⟩
abbrev cJ9_min_7cf53 : ByteArray := prog_15_method_69_code
def yJ9_min_7cf53 : MethodName := ⟨RJ9, "min", "(II)I"⟩
abbrev cJ9_min_f86c9 : ByteArray := prog_15_method_70_code
def yJ9_min_f86c9 : MethodName := ⟨RJ9, "min", "(JJ)J"⟩
def RJ10 : String := "java/lang/System"
def TJ10 : u_T := fun k => match k with
  | _ => ("", "", "", false)
def tyJ10 : Nat → FieldType := fun k => match k with
  | _ => .int
abbrev wsJ100 : List Cond := u_ws RJ10 TJ10 0
theorem nmJ10 : ∀ a, a < 0 → ∀ b, b < 0 → a ≠ b → (TJ10 a).2.1 ≠ (TJ10 b).2.1 := by decide +kernel
theorem tyJ10_ok : ∀ k, k < 0 → parseFieldDescriptor (TJ10 k).2.2.1 = some (tyJ10 k) := by decide +kernel
def RL : String := "RegularRallyLaw"
abbrev cL_law : ByteArray := code
def yL_law : MethodName := ⟨RL, "law", "([I)Z"⟩
def wsJ9_abs_067f4 : List Cond := .code yJ9_abs_067f4 cJ9_abs_067f4 2 (some .long) :: ([])
def wsJ9_max_f86c9 : List Cond := .code yJ9_max_f86c9 cJ9_max_f86c9 4 (some .long) :: ([])
def wsJ9_min_7cf53 : List Cond := .code yJ9_min_7cf53 cJ9_min_7cf53 2 (some .int) :: ([])
def wsJ9_min_f86c9 : List Cond := .code yJ9_min_f86c9 cJ9_min_f86c9 4 (some .long) :: ([])
theorem inJ9 : ∀ w ∈ wsJ90, w ∈ lw_tbl := by decide +kernel
theorem inJ10 : ∀ w ∈ wsJ100, w ∈ lw_tbl := by decide +kernel
theorem dX0_init_0 : decode cX0_init 0 = .ok (.aload_n 0, 1) := by decide +kernel
theorem dX0_init_1 : decode cX0_init 1 = .ok (.invokespecial 3, 3) := by decide +kernel
theorem dX0_init_4 : decode cX0_init 4 = .ok (.aload_n 0, 1) := by decide +kernel
theorem dX0_init_5 : decode cX0_init 5 = .ok (.bipush 8, 2) := by decide +kernel
theorem dX0_init_7 : decode cX0_init 7 = .ok (.newarray .int, 2) := by decide +kernel
theorem dX0_init_9 : decode cX0_init 9 = .ok (.putfield 9, 3) := by decide +kernel
theorem dX0_init_12 : decode cX0_init 12 = .ok (.return_, 1) := by decide +kernel
theorem dX0_become_0 : decode cX0_become 0 = .ok (.iconst 0, 1) := by decide +kernel
theorem dX0_become_1 : decode cX0_become 1 = .ok (.istore 4, 2) := by decide +kernel
theorem dX0_become_3 : decode cX0_become 3 = .ok (.iload 4, 2) := by decide +kernel
theorem dX0_become_5 : decode cX0_become 5 = .ok (.iload_n 3, 1) := by decide +kernel
theorem dX0_become_6 : decode cX0_become 6 = .ok (.if_icmp .ge 22, 3) := by decide +kernel
theorem dX0_become_9 : decode cX0_become 9 = .ok (.aload_n 0, 1) := by decide +kernel
theorem dX0_become_10 : decode cX0_become 10 = .ok (.getfield 9, 3) := by decide +kernel
theorem dX0_become_13 : decode cX0_become 13 = .ok (.iload 4, 2) := by decide +kernel
theorem dX0_become_15 : decode cX0_become 15 = .ok (.aload_n 1, 1) := by decide +kernel
theorem dX0_become_16 : decode cX0_become 16 = .ok (.iload_n 2, 1) := by decide +kernel
theorem dX0_become_17 : decode cX0_become 17 = .ok (.iload 4, 2) := by decide +kernel
theorem dX0_become_19 : decode cX0_become 19 = .ok (.iadd, 1) := by decide +kernel
theorem dX0_become_20 : decode cX0_become 20 = .ok (.iaload, 1) := by decide +kernel
theorem dX0_become_21 : decode cX0_become 21 = .ok (.iastore, 1) := by decide +kernel
theorem dX0_become_22 : decode cX0_become 22 = .ok (.iinc 4 1, 3) := by decide +kernel
theorem dX0_become_25 : decode cX0_become 25 = .ok (.goto (-22), 3) := by decide +kernel
theorem dX0_become_28 : decode cX0_become 28 = .ok (.aload_n 0, 1) := by decide +kernel
theorem dX0_become_29 : decode cX0_become 29 = .ok (.iload_n 3, 1) := by decide +kernel
theorem dX0_become_30 : decode cX0_become 30 = .ok (.putfield 15, 3) := by decide +kernel
theorem dX0_become_33 : decode cX0_become 33 = .ok (.return_, 1) := by decide +kernel
theorem dX0_metAfter_0 : decode cX0_metAfter 0 = .ok (.iload_n 1, 1) := by decide +kernel
theorem dX0_metAfter_1 : decode cX0_metAfter 1 = .ok (.aload_n 0, 1) := by decide +kernel
theorem dX0_metAfter_2 : decode cX0_metAfter 2 = .ok (.getfield 15, 3) := by decide +kernel
theorem dX0_metAfter_5 : decode cX0_metAfter 5 = .ok (.if_icmp .ge 19, 3) := by decide +kernel
theorem dX0_metAfter_8 : decode cX0_metAfter 8 = .ok (.aload_n 0, 1) := by decide +kernel
theorem dX0_metAfter_9 : decode cX0_metAfter 9 = .ok (.getfield 9, 3) := by decide +kernel
theorem dX0_metAfter_12 : decode cX0_metAfter 12 = .ok (.iload_n 1, 1) := by decide +kernel
theorem dX0_metAfter_13 : decode cX0_metAfter 13 = .ok (.iaload, 1) := by decide +kernel
theorem dX0_metAfter_14 : decode cX0_metAfter 14 = .ok (.iload_n 2, 1) := by decide +kernel
theorem dX0_metAfter_15 : decode cX0_metAfter 15 = .ok (.if_icmp .ne 9, 3) := by decide +kernel
theorem dX0_metAfter_18 : decode cX0_metAfter 18 = .ok (.iload_n 1, 1) := by decide +kernel
theorem dX0_metAfter_19 : decode cX0_metAfter 19 = .ok (.iconst 1, 1) := by decide +kernel
theorem dX0_metAfter_20 : decode cX0_metAfter 20 = .ok (.iadd, 1) := by decide +kernel
theorem dX0_metAfter_21 : decode cX0_metAfter 21 = .ok (.goto 4, 3) := by decide +kernel
theorem dX0_metAfter_24 : decode cX0_metAfter 24 = .ok (.iload_n 1, 1) := by decide +kernel
theorem dX0_metAfter_25 : decode cX0_metAfter 25 = .ok (.ireturn, 1) := by decide +kernel
theorem dX0_isPassed_0 : decode cX0_isPassed 0 = .ok (.iload_n 1, 1) := by decide +kernel
theorem dX0_isPassed_1 : decode cX0_isPassed 1 = .ok (.aload_n 0, 1) := by decide +kernel
theorem dX0_isPassed_2 : decode cX0_isPassed 2 = .ok (.getfield 15, 3) := by decide +kernel
theorem dX0_isPassed_5 : decode cX0_isPassed 5 = .ok (.if_icmp .ne 22, 3) := by decide +kernel
theorem dX0_isPassed_8 : decode cX0_isPassed 8 = .ok (.aload_n 0, 1) := by decide +kernel
theorem dX0_isPassed_9 : decode cX0_isPassed 9 = .ok (.getfield 9, 3) := by decide +kernel
theorem dX0_isPassed_12 : decode cX0_isPassed 12 = .ok (.aload_n 0, 1) := by decide +kernel
theorem dX0_isPassed_13 : decode cX0_isPassed 13 = .ok (.getfield 15, 3) := by decide +kernel
theorem dX0_isPassed_16 : decode cX0_isPassed 16 = .ok (.iconst 1, 1) := by decide +kernel
theorem dX0_isPassed_17 : decode cX0_isPassed 17 = .ok (.isub, 1) := by decide +kernel
theorem dX0_isPassed_18 : decode cX0_isPassed 18 = .ok (.iaload, 1) := by decide +kernel
theorem dX0_isPassed_19 : decode cX0_isPassed 19 = .ok (.iload_n 2, 1) := by decide +kernel
theorem dX0_isPassed_20 : decode cX0_isPassed 20 = .ok (.if_icmp .ne 7, 3) := by decide +kernel
theorem dX0_isPassed_23 : decode cX0_isPassed 23 = .ok (.iconst 1, 1) := by decide +kernel
theorem dX0_isPassed_24 : decode cX0_isPassed 24 = .ok (.goto 4, 3) := by decide +kernel
theorem dX0_isPassed_27 : decode cX0_isPassed 27 = .ok (.iconst 0, 1) := by decide +kernel
theorem dX0_isPassed_28 : decode cX0_isPassed 28 = .ok (.ireturn, 1) := by decide +kernel
theorem dX1_init_0 : decode cX1_init 0 = .ok (.aload_n 0, 1) := by decide +kernel
theorem dX1_init_1 : decode cX1_init 1 = .ok (.invokespecial 3, 3) := by decide +kernel
theorem dX1_init_4 : decode cX1_init 4 = .ok (.aload_n 0, 1) := by decide +kernel
theorem dX1_init_5 : decode cX1_init 5 = .ok (.bipush 8, 2) := by decide +kernel
theorem dX1_init_7 : decode cX1_init 7 = .ok (.newarray .int, 2) := by decide +kernel
theorem dX1_init_9 : decode cX1_init 9 = .ok (.putfield 9, 3) := by decide +kernel
theorem dX1_init_12 : decode cX1_init 12 = .ok (.aload_n 0, 1) := by decide +kernel
theorem dX1_init_13 : decode cX1_init 13 = .ok (.bipush 8, 2) := by decide +kernel
theorem dX1_init_15 : decode cX1_init 15 = .ok (.newarray .int, 2) := by decide +kernel
theorem dX1_init_17 : decode cX1_init 17 = .ok (.putfield 15, 3) := by decide +kernel
theorem dX1_init_20 : decode cX1_init 20 = .ok (.aload_n 0, 1) := by decide +kernel
theorem dX1_init_21 : decode cX1_init 21 = .ok (.bipush 8, 2) := by decide +kernel
theorem dX1_init_23 : decode cX1_init 23 = .ok (.newarray .int, 2) := by decide +kernel
theorem dX1_init_25 : decode cX1_init 25 = .ok (.putfield 18, 3) := by decide +kernel
theorem dX1_init_28 : decode cX1_init 28 = .ok (.aload_n 0, 1) := by decide +kernel
theorem dX1_init_29 : decode cX1_init 29 = .ok (.iload_n 1, 1) := by decide +kernel
theorem dX1_init_30 : decode cX1_init 30 = .ok (.putfield 21, 3) := by decide +kernel
theorem dX1_init_33 : decode cX1_init 33 = .ok (.aload_n 0, 1) := by decide +kernel
theorem dX1_init_34 : decode cX1_init 34 = .ok (.iload_n 2, 1) := by decide +kernel
theorem dX1_init_35 : decode cX1_init 35 = .ok (.putfield 25, 3) := by decide +kernel
theorem dX1_init_38 : decode cX1_init 38 = .ok (.return_, 1) := by decide +kernel
theorem dX1_isClockedAt_0 : decode cX1_isClockedAt 0 = .ok (.aload_n 0, 1) := by decide +kernel
theorem dX1_isClockedAt_1 : decode cX1_isClockedAt 1 = .ok (.getfield 15, 3) := by decide +kernel
theorem dX1_isClockedAt_4 : decode cX1_isClockedAt 4 = .ok (.iload_n 1, 1) := by decide +kernel
theorem dX1_isClockedAt_5 : decode cX1_isClockedAt 5 = .ok (.iaload, 1) := by decide +kernel
theorem dX1_isClockedAt_6 : decode cX1_isClockedAt 6 = .ok (.ifCond .le 7, 3) := by decide +kernel
theorem dX1_isClockedAt_9 : decode cX1_isClockedAt 9 = .ok (.iconst 1, 1) := by decide +kernel
theorem dX1_isClockedAt_10 : decode cX1_isClockedAt 10 = .ok (.goto 4, 3) := by decide +kernel
theorem dX1_isClockedAt_13 : decode cX1_isClockedAt 13 = .ok (.iconst 0, 1) := by decide +kernel
theorem dX1_isClockedAt_14 : decode cX1_isClockedAt 14 = .ok (.ireturn, 1) := by decide +kernel
theorem dX1_arrive_0 : decode cX1_arrive 0 = .ok (.aload_n 0, 1) := by decide +kernel
theorem dX1_arrive_1 : decode cX1_arrive 1 = .ok (.dup, 1) := by decide +kernel
theorem dX1_arrive_2 : decode cX1_arrive 2 = .ok (.getfield 28, 3) := by decide +kernel
theorem dX1_arrive_5 : decode cX1_arrive 5 = .ok (.iconst 1, 1) := by decide +kernel
theorem dX1_arrive_6 : decode cX1_arrive 6 = .ok (.iadd, 1) := by decide +kernel
theorem dX1_arrive_7 : decode cX1_arrive 7 = .ok (.putfield 28, 3) := by decide +kernel
theorem dX1_arrive_10 : decode cX1_arrive 10 = .ok (.aload_n 0, 1) := by decide +kernel
theorem dX1_arrive_11 : decode cX1_arrive 11 = .ok (.getfield 15, 3) := by decide +kernel
theorem dX1_arrive_14 : decode cX1_arrive 14 = .ok (.iload_n 1, 1) := by decide +kernel
theorem dX1_arrive_15 : decode cX1_arrive 15 = .ok (.aload_n 0, 1) := by decide +kernel
theorem dX1_arrive_16 : decode cX1_arrive 16 = .ok (.getfield 28, 3) := by decide +kernel
theorem dX1_arrive_19 : decode cX1_arrive 19 = .ok (.iastore, 1) := by decide +kernel
theorem dX1_arrive_20 : decode cX1_arrive 20 = .ok (.aload_n 0, 1) := by decide +kernel
theorem dX1_arrive_21 : decode cX1_arrive 21 = .ok (.getfield 9, 3) := by decide +kernel
theorem dX1_arrive_24 : decode cX1_arrive 24 = .ok (.iload_n 1, 1) := by decide +kernel
theorem dX1_arrive_25 : decode cX1_arrive 25 = .ok (.iload_n 2, 1) := by decide +kernel
theorem dX1_arrive_26 : decode cX1_arrive 26 = .ok (.iastore, 1) := by decide +kernel
theorem dX1_arrive_27 : decode cX1_arrive 27 = .ok (.return_, 1) := by decide +kernel
theorem dX1_forgetTheWay_0 : decode cX1_forgetTheWay 0 = .ok (.aload_n 0, 1) := by decide +kernel
theorem dX1_forgetTheWay_1 : decode cX1_forgetTheWay 1 = .ok (.iconst 0, 1) := by decide +kernel
theorem dX1_forgetTheWay_2 : decode cX1_forgetTheWay 2 = .ok (.putfield 28, 3) := by decide +kernel
theorem dX1_forgetTheWay_5 : decode cX1_forgetTheWay 5 = .ok (.iconst 0, 1) := by decide +kernel
theorem dX1_forgetTheWay_6 : decode cX1_forgetTheWay 6 = .ok (.istore_n 1, 1) := by decide +kernel
theorem dX1_forgetTheWay_7 : decode cX1_forgetTheWay 7 = .ok (.iload_n 1, 1) := by decide +kernel
theorem dX1_forgetTheWay_8 : decode cX1_forgetTheWay 8 = .ok (.bipush 8, 2) := by decide +kernel
theorem dX1_forgetTheWay_10 : decode cX1_forgetTheWay 10 = .ok (.if_icmp .ge 23, 3) := by decide +kernel
theorem dX1_forgetTheWay_13 : decode cX1_forgetTheWay 13 = .ok (.aload_n 0, 1) := by decide +kernel
theorem dX1_forgetTheWay_14 : decode cX1_forgetTheWay 14 = .ok (.getfield 15, 3) := by decide +kernel
theorem dX1_forgetTheWay_17 : decode cX1_forgetTheWay 17 = .ok (.iload_n 1, 1) := by decide +kernel
theorem dX1_forgetTheWay_18 : decode cX1_forgetTheWay 18 = .ok (.iconst 0, 1) := by decide +kernel
theorem dX1_forgetTheWay_19 : decode cX1_forgetTheWay 19 = .ok (.iastore, 1) := by decide +kernel
theorem dX1_forgetTheWay_20 : decode cX1_forgetTheWay 20 = .ok (.aload_n 0, 1) := by decide +kernel
theorem dX1_forgetTheWay_21 : decode cX1_forgetTheWay 21 = .ok (.getfield 18, 3) := by decide +kernel
theorem dX1_forgetTheWay_24 : decode cX1_forgetTheWay 24 = .ok (.iload_n 1, 1) := by decide +kernel
theorem dX1_forgetTheWay_25 : decode cX1_forgetTheWay 25 = .ok (.iconst 0, 1) := by decide +kernel
theorem dX1_forgetTheWay_26 : decode cX1_forgetTheWay 26 = .ok (.iastore, 1) := by decide +kernel
theorem dX1_forgetTheWay_27 : decode cX1_forgetTheWay 27 = .ok (.iinc 1 1, 3) := by decide +kernel
theorem dX1_forgetTheWay_30 : decode cX1_forgetTheWay 30 = .ok (.goto (-23), 3) := by decide +kernel
theorem dX1_forgetTheWay_33 : decode cX1_forgetTheWay 33 = .ok (.return_, 1) := by decide +kernel
theorem dX1_share_0 : decode cX1_share 0 = .ok (.iload_n 1, 1) := by decide +kernel
theorem dX1_share_1 : decode cX1_share 1 = .ok (.ireturn, 1) := by decide +kernel
theorem dX1_greeting_0 : decode cX1_greeting 0 = .ok (.aload_n 1, 1) := by decide +kernel
theorem dX1_greeting_1 : decode cX1_greeting 1 = .ok (.iconst 4, 1) := by decide +kernel
theorem dX1_greeting_2 : decode cX1_greeting 2 = .ok (.invokevirtual 31, 3) := by decide +kernel
theorem dX1_greeting_5 : decode cX1_greeting 5 = .ok (.bipush 10, 2) := by decide +kernel
theorem dX1_greeting_7 : decode cX1_greeting 7 = .ok (.aload_n 0, 1) := by decide +kernel
theorem dX1_greeting_8 : decode cX1_greeting 8 = .ok (.getfield 21, 3) := by decide +kernel
theorem dX1_greeting_11 : decode cX1_greeting 11 = .ok (.imul, 1) := by decide +kernel
theorem dX1_greeting_12 : decode cX1_greeting 12 = .ok (.ireturn, 1) := by decide +kernel
theorem dX2_init_0 : decode cX2_init 0 = .ok (.aload_n 0, 1) := by decide +kernel
theorem dX2_init_1 : decode cX2_init 1 = .ok (.invokespecial 1, 3) := by decide +kernel
theorem dX2_init_4 : decode cX2_init 4 = .ok (.aload_n 0, 1) := by decide +kernel
theorem dX2_init_5 : decode cX2_init 5 = .ok (.iload_n 1, 1) := by decide +kernel
theorem dX2_init_6 : decode cX2_init 6 = .ok (.putfield 7, 3) := by decide +kernel
theorem dX2_init_9 : decode cX2_init 9 = .ok (.return_, 1) := by decide +kernel
theorem dX2_check_0 : decode cX2_check 0 = .ok (.aload_n 0, 1) := by decide +kernel
theorem dX2_check_1 : decode cX2_check 1 = .ok (.iload_n 1, 1) := by decide +kernel
theorem dX2_check_2 : decode cX2_check 2 = .ok (.putfield 13, 3) := by decide +kernel
theorem dX2_check_5 : decode cX2_check 5 = .ok (.aload_n 0, 1) := by decide +kernel
theorem dX2_check_6 : decode cX2_check 6 = .ok (.iload_n 2, 1) := by decide +kernel
theorem dX2_check_7 : decode cX2_check 7 = .ok (.iload_n 1, 1) := by decide +kernel
theorem dX2_check_8 : decode cX2_check 8 = .ok (.isub, 1) := by decide +kernel
theorem dX2_check_9 : decode cX2_check 9 = .ok (.i2l, 1) := by decide +kernel
theorem dX2_check_10 : decode cX2_check 10 = .ok (.putfield 16, 3) := by decide +kernel
theorem dX2_check_13 : decode cX2_check 13 = .ok (.aload_n 0, 1) := by decide +kernel
theorem dX2_check_14 : decode cX2_check 14 = .ok (.iload_n 3, 1) := by decide +kernel
theorem dX2_check_15 : decode cX2_check 15 = .ok (.putfield 20, 3) := by decide +kernel
theorem dX2_check_18 : decode cX2_check 18 = .ok (.aload_n 0, 1) := by decide +kernel
theorem dX2_check_19 : decode cX2_check 19 = .ok (.iload 4, 2) := by decide +kernel
theorem dX2_check_21 : decode cX2_check 21 = .ok (.iload_n 3, 1) := by decide +kernel
theorem dX2_check_22 : decode cX2_check 22 = .ok (.isub, 1) := by decide +kernel
theorem dX2_check_23 : decode cX2_check 23 = .ok (.i2l, 1) := by decide +kernel
theorem dX2_check_24 : decode cX2_check 24 = .ok (.putfield 23, 3) := by decide +kernel
theorem dX2_check_27 : decode cX2_check 27 = .ok (.return_, 1) := by decide +kernel
theorem dX2_putRight_0 : decode cX2_putRight 0 = .ok (.aload_n 0, 1) := by decide +kernel
theorem dX2_putRight_1 : decode cX2_putRight 1 = .ok (.getfield 23, 3) := by decide +kernel
theorem dX2_putRight_4 : decode cX2_putRight 4 = .ok (.lconst 0, 1) := by decide +kernel
theorem dX2_putRight_5 : decode cX2_putRight 5 = .ok (.lcmp, 1) := by decide +kernel
theorem dX2_putRight_6 : decode cX2_putRight 6 = .ok (.ifCond .le 29, 3) := by decide +kernel
theorem dX2_putRight_9 : decode cX2_putRight 9 = .ok (.aload_n 0, 1) := by decide +kernel
theorem dX2_putRight_10 : decode cX2_putRight 10 = .ok (.getfield 13, 3) := by decide +kernel
theorem dX2_putRight_13 : decode cX2_putRight 13 = .ok (.i2l, 1) := by decide +kernel
theorem dX2_putRight_14 : decode cX2_putRight 14 = .ok (.iload_n 1, 1) := by decide +kernel
theorem dX2_putRight_15 : decode cX2_putRight 15 = .ok (.aload_n 0, 1) := by decide +kernel
theorem dX2_putRight_16 : decode cX2_putRight 16 = .ok (.getfield 20, 3) := by decide +kernel
theorem dX2_putRight_19 : decode cX2_putRight 19 = .ok (.isub, 1) := by decide +kernel
theorem dX2_putRight_20 : decode cX2_putRight 20 = .ok (.i2l, 1) := by decide +kernel
theorem dX2_putRight_21 : decode cX2_putRight 21 = .ok (.aload_n 0, 1) := by decide +kernel
theorem dX2_putRight_22 : decode cX2_putRight 22 = .ok (.getfield 16, 3) := by decide +kernel
theorem dX2_putRight_25 : decode cX2_putRight 25 = .ok (.lmul, 1) := by decide +kernel
theorem dX2_putRight_26 : decode cX2_putRight 26 = .ok (.aload_n 0, 1) := by decide +kernel
theorem dX2_putRight_27 : decode cX2_putRight 27 = .ok (.getfield 23, 3) := by decide +kernel
theorem dX2_putRight_30 : decode cX2_putRight 30 = .ok (.ldiv, 1) := by decide +kernel
theorem dX2_putRight_31 : decode cX2_putRight 31 = .ok (.ladd, 1) := by decide +kernel
theorem dX2_putRight_32 : decode cX2_putRight 32 = .ok (.goto 5, 3) := by decide +kernel
theorem dX2_putRight_35 : decode cX2_putRight 35 = .ok (.iload_n 1, 1) := by decide +kernel
theorem dX2_putRight_36 : decode cX2_putRight 36 = .ok (.i2l, 1) := by decide +kernel
theorem dX2_putRight_37 : decode cX2_putRight 37 = .ok (.lreturn, 1) := by decide +kernel
theorem dX3_init_0 : decode cX3_init 0 = .ok (.aload_n 0, 1) := by decide +kernel
theorem dX3_init_1 : decode cX3_init 1 = .ok (.iload_n 1, 1) := by decide +kernel
theorem dX3_init_2 : decode cX3_init 2 = .ok (.iload_n 2, 1) := by decide +kernel
theorem dX3_init_3 : decode cX3_init 3 = .ok (.iload_n 3, 1) := by decide +kernel
theorem dX3_init_4 : decode cX3_init 4 = .ok (.iconst 2, 1) := by decide +kernel
theorem dX3_init_5 : decode cX3_init 5 = .ok (.invokespecial 1, 3) := by decide +kernel
theorem dX3_init_8 : decode cX3_init 8 = .ok (.return_, 1) := by decide +kernel
theorem dX3_isOpen_0 : decode cX3_isOpen 0 = .ok (.aload_n 0, 1) := by decide +kernel
theorem dX3_isOpen_1 : decode cX3_isOpen 1 = .ok (.getfield 7, 3) := by decide +kernel
theorem dX3_isOpen_4 : decode cX3_isOpen 4 = .ok (.ifCond .ne 14, 3) := by decide +kernel
theorem dX3_isOpen_7 : decode cX3_isOpen 7 = .ok (.aload_n 0, 1) := by decide +kernel
theorem dX3_isOpen_8 : decode cX3_isOpen 8 = .ok (.invokespecial 13, 3) := by decide +kernel
theorem dX3_isOpen_11 : decode cX3_isOpen 11 = .ok (.ifCond .eq 7, 3) := by decide +kernel
theorem dX3_isOpen_14 : decode cX3_isOpen 14 = .ok (.iconst 1, 1) := by decide +kernel
theorem dX3_isOpen_15 : decode cX3_isOpen 15 = .ok (.goto 4, 3) := by decide +kernel
theorem dX3_isOpen_18 : decode cX3_isOpen 18 = .ok (.iconst 0, 1) := by decide +kernel
theorem dX3_isOpen_19 : decode cX3_isOpen 19 = .ok (.ireturn, 1) := by decide +kernel
theorem dX3_telling_0 : decode cX3_telling 0 = .ok (.aload_n 1, 1) := by decide +kernel
theorem dX3_telling_1 : decode cX3_telling 1 = .ok (.iconst 3, 1) := by decide +kernel
theorem dX3_telling_2 : decode cX3_telling 2 = .ok (.invokevirtual 17, 3) := by decide +kernel
theorem dX3_telling_5 : decode cX3_telling 5 = .ok (.aload_n 0, 1) := by decide +kernel
theorem dX3_telling_6 : decode cX3_telling 6 = .ok (.aload_n 1, 1) := by decide +kernel
theorem dX3_telling_7 : decode cX3_telling 7 = .ok (.invokespecial 23, 3) := by decide +kernel
theorem dX3_telling_10 : decode cX3_telling 10 = .ok (.istore_n 2, 1) := by decide +kernel
theorem dX3_telling_11 : decode cX3_telling 11 = .ok (.aload_n 0, 1) := by decide +kernel
theorem dX3_telling_12 : decode cX3_telling 12 = .ok (.getfield 7, 3) := by decide +kernel
theorem dX3_telling_15 : decode cX3_telling 15 = .ok (.ifCond .eq 8, 3) := by decide +kernel
theorem dX3_telling_18 : decode cX3_telling 18 = .ok (.iload_n 2, 1) := by decide +kernel
theorem dX3_telling_19 : decode cX3_telling 19 = .ok (.ineg, 1) := by decide +kernel
theorem dX3_telling_20 : decode cX3_telling 20 = .ok (.goto 4, 3) := by decide +kernel
theorem dX3_telling_23 : decode cX3_telling 23 = .ok (.iload_n 2, 1) := by decide +kernel
theorem dX3_telling_24 : decode cX3_telling 24 = .ok (.ireturn, 1) := by decide +kernel
theorem dX4_init_0 : decode cX4_init 0 = .ok (.aload_n 0, 1) := by decide +kernel
theorem dX4_init_1 : decode cX4_init 1 = .ok (.iload_n 1, 1) := by decide +kernel
theorem dX4_init_2 : decode cX4_init 2 = .ok (.iload_n 2, 1) := by decide +kernel
theorem dX4_init_3 : decode cX4_init 3 = .ok (.invokespecial 3, 3) := by decide +kernel
theorem dX4_init_6 : decode cX4_init 6 = .ok (.return_, 1) := by decide +kernel
theorem dX4_share_0 : decode cX4_share 0 = .ok (.aload_n 0, 1) := by decide +kernel
theorem dX4_share_1 : decode cX4_share 1 = .ok (.iload_n 1, 1) := by decide +kernel
theorem dX4_share_2 : decode cX4_share 2 = .ok (.invokespecial 9, 3) := by decide +kernel
theorem dX4_share_5 : decode cX4_share 5 = .ok (.bipush 50, 2) := by decide +kernel
theorem dX4_share_7 : decode cX4_share 7 = .ok (.invokestatic 13, 3) := by decide +kernel
theorem dX4_share_10 : decode cX4_share 10 = .ok (.ireturn, 1) := by decide +kernel
theorem dX4_greeting_0 : decode cX4_greeting 0 = .ok (.aload_n 1, 1) := by decide +kernel
theorem dX4_greeting_1 : decode cX4_greeting 1 = .ok (.bipush 6, 2) := by decide +kernel
theorem dX4_greeting_3 : decode cX4_greeting 3 = .ok (.invokevirtual 19, 3) := by decide +kernel
theorem dX4_greeting_6 : decode cX4_greeting 6 = .ok (.aload_n 0, 1) := by decide +kernel
theorem dX4_greeting_7 : decode cX4_greeting 7 = .ok (.aload_n 1, 1) := by decide +kernel
theorem dX4_greeting_8 : decode cX4_greeting 8 = .ok (.invokespecial 23, 3) := by decide +kernel
theorem dX4_greeting_11 : decode cX4_greeting 11 = .ok (.iconst 1, 1) := by decide +kernel
theorem dX4_greeting_12 : decode cX4_greeting 12 = .ok (.iadd, 1) := by decide +kernel
theorem dX4_greeting_13 : decode cX4_greeting 13 = .ok (.ireturn, 1) := by decide +kernel
theorem dX5_init_0 : decode cX5_init 0 = .ok (.aload_n 0, 1) := by decide +kernel
theorem dX5_init_1 : decode cX5_init 1 = .ok (.iload_n 1, 1) := by decide +kernel
theorem dX5_init_2 : decode cX5_init 2 = .ok (.iload_n 2, 1) := by decide +kernel
theorem dX5_init_3 : decode cX5_init 3 = .ok (.invokespecial 1, 3) := by decide +kernel
theorem dX5_init_6 : decode cX5_init 6 = .ok (.return_, 1) := by decide +kernel
theorem dX5_share_0 : decode cX5_share 0 = .ok (.iload_n 1, 1) := by decide +kernel
theorem dX5_share_1 : decode cX5_share 1 = .ok (.iconst 2, 1) := by decide +kernel
theorem dX5_share_2 : decode cX5_share 2 = .ok (.idiv, 1) := by decide +kernel
theorem dX5_share_3 : decode cX5_share 3 = .ok (.ireturn, 1) := by decide +kernel
theorem dX5_greeting_0 : decode cX5_greeting 0 = .ok (.aload_n 1, 1) := by decide +kernel
theorem dX5_greeting_1 : decode cX5_greeting 1 = .ok (.iconst 5, 1) := by decide +kernel
theorem dX5_greeting_2 : decode cX5_greeting 2 = .ok (.invokevirtual 7, 3) := by decide +kernel
theorem dX5_greeting_5 : decode cX5_greeting 5 = .ok (.bipush 7, 2) := by decide +kernel
theorem dX5_greeting_7 : decode cX5_greeting 7 = .ok (.ireturn, 1) := by decide +kernel
theorem dX6_init_0 : decode cX6_init 0 = .ok (.aload_n 0, 1) := by decide +kernel
theorem dX6_init_1 : decode cX6_init 1 = .ok (.iload_n 1, 1) := by decide +kernel
theorem dX6_init_2 : decode cX6_init 2 = .ok (.iload_n 2, 1) := by decide +kernel
theorem dX6_init_3 : decode cX6_init 3 = .ok (.iload_n 3, 1) := by decide +kernel
theorem dX6_init_4 : decode cX6_init 4 = .ok (.iconst 1, 1) := by decide +kernel
theorem dX6_init_5 : decode cX6_init 5 = .ok (.invokespecial 3, 3) := by decide +kernel
theorem dX6_init_8 : decode cX6_init 8 = .ok (.return_, 1) := by decide +kernel
theorem dX6_endFrom_0 : decode cX6_endFrom 0 = .ok (.iload_n 1, 1) := by decide +kernel
theorem dX6_endFrom_1 : decode cX6_endFrom 1 = .ok (.aload_n 0, 1) := by decide +kernel
theorem dX6_endFrom_2 : decode cX6_endFrom 2 = .ok (.getfield 9, 3) := by decide +kernel
theorem dX6_endFrom_5 : decode cX6_endFrom 5 = .ok (.if_icmp .ne 11, 3) := by decide +kernel
theorem dX6_endFrom_8 : decode cX6_endFrom 8 = .ok (.aload_n 0, 1) := by decide +kernel
theorem dX6_endFrom_9 : decode cX6_endFrom 9 = .ok (.iload_n 1, 1) := by decide +kernel
theorem dX6_endFrom_10 : decode cX6_endFrom 10 = .ok (.invokespecial 15, 3) := by decide +kernel
theorem dX6_endFrom_13 : decode cX6_endFrom 13 = .ok (.goto 5, 3) := by decide +kernel
theorem dX6_endFrom_16 : decode cX6_endFrom 16 = .ok (.bipush (-9), 2) := by decide +kernel
theorem dX6_endFrom_18 : decode cX6_endFrom 18 = .ok (.ireturn, 1) := by decide +kernel
theorem dX6_telling_0 : decode cX6_telling 0 = .ok (.aload_n 1, 1) := by decide +kernel
theorem dX6_telling_1 : decode cX6_telling 1 = .ok (.iconst 2, 1) := by decide +kernel
theorem dX6_telling_2 : decode cX6_telling 2 = .ok (.invokevirtual 19, 3) := by decide +kernel
theorem dX6_telling_5 : decode cX6_telling 5 = .ok (.iconst 1, 1) := by decide +kernel
theorem dX6_telling_6 : decode cX6_telling 6 = .ok (.aload_n 0, 1) := by decide +kernel
theorem dX6_telling_7 : decode cX6_telling 7 = .ok (.aload_n 1, 1) := by decide +kernel
theorem dX6_telling_8 : decode cX6_telling 8 = .ok (.invokespecial 23, 3) := by decide +kernel
theorem dX6_telling_11 : decode cX6_telling 11 = .ok (.iadd, 1) := by decide +kernel
theorem dX6_telling_12 : decode cX6_telling 12 = .ok (.ireturn, 1) := by decide +kernel
theorem dX7_init_0 : decode cX7_init 0 = .ok (.aload_n 0, 1) := by decide +kernel
theorem dX7_init_1 : decode cX7_init 1 = .ok (.invokespecial 3, 3) := by decide +kernel
theorem dX7_init_4 : decode cX7_init 4 = .ok (.aload_n 0, 1) := by decide +kernel
theorem dX7_init_5 : decode cX7_init 5 = .ok (.iload_n 1, 1) := by decide +kernel
theorem dX7_init_6 : decode cX7_init 6 = .ok (.putfield 9, 3) := by decide +kernel
theorem dX7_init_9 : decode cX7_init 9 = .ok (.aload_n 0, 1) := by decide +kernel
theorem dX7_init_10 : decode cX7_init 10 = .ok (.iload_n 2, 1) := by decide +kernel
theorem dX7_init_11 : decode cX7_init 11 = .ok (.putfield 15, 3) := by decide +kernel
theorem dX7_init_14 : decode cX7_init 14 = .ok (.aload_n 0, 1) := by decide +kernel
theorem dX7_init_15 : decode cX7_init 15 = .ok (.iload_n 3, 1) := by decide +kernel
theorem dX7_init_16 : decode cX7_init 16 = .ok (.putfield 18, 3) := by decide +kernel
theorem dX7_init_19 : decode cX7_init 19 = .ok (.aload_n 0, 1) := by decide +kernel
theorem dX7_init_20 : decode cX7_init 20 = .ok (.iload 4, 2) := by decide +kernel
theorem dX7_init_22 : decode cX7_init 22 = .ok (.putfield 21, 3) := by decide +kernel
theorem dX7_init_25 : decode cX7_init 25 = .ok (.return_, 1) := by decide +kernel
theorem dX7_isOpen_0 : decode cX7_isOpen 0 = .ok (.aload_n 0, 1) := by decide +kernel
theorem dX7_isOpen_1 : decode cX7_isOpen 1 = .ok (.getfield 24, 3) := by decide +kernel
theorem dX7_isOpen_4 : decode cX7_isOpen 4 = .ok (.ifCond .ne 7, 3) := by decide +kernel
theorem dX7_isOpen_7 : decode cX7_isOpen 7 = .ok (.iconst 1, 1) := by decide +kernel
theorem dX7_isOpen_8 : decode cX7_isOpen 8 = .ok (.goto 4, 3) := by decide +kernel
theorem dX7_isOpen_11 : decode cX7_isOpen 11 = .ok (.iconst 0, 1) := by decide +kernel
theorem dX7_isOpen_12 : decode cX7_isOpen 12 = .ok (.ireturn, 1) := by decide +kernel
theorem dX7_endFrom_0 : decode cX7_endFrom 0 = .ok (.aload_n 0, 1) := by decide +kernel
theorem dX7_endFrom_1 : decode cX7_endFrom 1 = .ok (.invokevirtual 28, 3) := by decide +kernel
theorem dX7_endFrom_4 : decode cX7_endFrom 4 = .ok (.ifCond .ne 6, 3) := by decide +kernel
theorem dX7_endFrom_7 : decode cX7_endFrom 7 = .ok (.bipush (-9), 2) := by decide +kernel
theorem dX7_endFrom_9 : decode cX7_endFrom 9 = .ok (.ireturn, 1) := by decide +kernel
theorem dX7_endFrom_10 : decode cX7_endFrom 10 = .ok (.iload_n 1, 1) := by decide +kernel
theorem dX7_endFrom_11 : decode cX7_endFrom 11 = .ok (.aload_n 0, 1) := by decide +kernel
theorem dX7_endFrom_12 : decode cX7_endFrom 12 = .ok (.getfield 9, 3) := by decide +kernel
theorem dX7_endFrom_15 : decode cX7_endFrom 15 = .ok (.if_icmp .ne 8, 3) := by decide +kernel
theorem dX7_endFrom_18 : decode cX7_endFrom 18 = .ok (.aload_n 0, 1) := by decide +kernel
theorem dX7_endFrom_19 : decode cX7_endFrom 19 = .ok (.getfield 15, 3) := by decide +kernel
theorem dX7_endFrom_22 : decode cX7_endFrom 22 = .ok (.ireturn, 1) := by decide +kernel
theorem dX7_endFrom_23 : decode cX7_endFrom 23 = .ok (.iload_n 1, 1) := by decide +kernel
theorem dX7_endFrom_24 : decode cX7_endFrom 24 = .ok (.aload_n 0, 1) := by decide +kernel
theorem dX7_endFrom_25 : decode cX7_endFrom 25 = .ok (.getfield 15, 3) := by decide +kernel
theorem dX7_endFrom_28 : decode cX7_endFrom 28 = .ok (.if_icmp .ne 10, 3) := by decide +kernel
theorem dX7_endFrom_31 : decode cX7_endFrom 31 = .ok (.aload_n 0, 1) := by decide +kernel
theorem dX7_endFrom_32 : decode cX7_endFrom 32 = .ok (.getfield 9, 3) := by decide +kernel
theorem dX7_endFrom_35 : decode cX7_endFrom 35 = .ok (.goto 5, 3) := by decide +kernel
theorem dX7_endFrom_38 : decode cX7_endFrom 38 = .ok (.bipush (-9), 2) := by decide +kernel
theorem dX7_endFrom_40 : decode cX7_endFrom 40 = .ok (.ireturn, 1) := by decide +kernel
theorem dX7_telling_0 : decode cX7_telling 0 = .ok (.aload_n 1, 1) := by decide +kernel
theorem dX7_telling_1 : decode cX7_telling 1 = .ok (.iconst 1, 1) := by decide +kernel
theorem dX7_telling_2 : decode cX7_telling 2 = .ok (.invokevirtual 32, 3) := by decide +kernel
theorem dX7_telling_5 : decode cX7_telling 5 = .ok (.aload_n 0, 1) := by decide +kernel
theorem dX7_telling_6 : decode cX7_telling 6 = .ok (.getfield 18, 3) := by decide +kernel
theorem dX7_telling_9 : decode cX7_telling 9 = .ok (.ireturn, 1) := by decide +kernel
theorem dX8_init_0 : decode cX8_init 0 = .ok (.aload_n 0, 1) := by decide +kernel
theorem dX8_init_1 : decode cX8_init 1 = .ok (.invokespecial 3, 3) := by decide +kernel
theorem dX8_init_4 : decode cX8_init 4 = .ok (.aload_n 0, 1) := by decide +kernel
theorem dX8_init_5 : decode cX8_init 5 = .ok (.bipush 10, 2) := by decide +kernel
theorem dX8_init_7 : decode cX8_init 7 = .ok (.newarray .int, 2) := by decide +kernel
theorem dX8_init_9 : decode cX8_init 9 = .ok (.putfield 9, 3) := by decide +kernel
theorem dX8_init_12 : decode cX8_init 12 = .ok (.aload_n 0, 1) := by decide +kernel
theorem dX8_init_13 : decode cX8_init 13 = .ok (.sipush 160, 3) := by decide +kernel
theorem dX8_init_16 : decode cX8_init 16 = .ok (.newarray .int, 2) := by decide +kernel
theorem dX8_init_18 : decode cX8_init 18 = .ok (.putfield 15, 3) := by decide +kernel
theorem dX8_init_21 : decode cX8_init 21 = .ok (.aload_n 0, 1) := by decide +kernel
theorem dX8_init_22 : decode cX8_init 22 = .ok (.sipush 160, 3) := by decide +kernel
theorem dX8_init_25 : decode cX8_init 25 = .ok (.newarray .int, 2) := by decide +kernel
theorem dX8_init_27 : decode cX8_init 27 = .ok (.putfield 18, 3) := by decide +kernel
theorem dX8_init_30 : decode cX8_init 30 = .ok (.aload_n 0, 1) := by decide +kernel
theorem dX8_init_31 : decode cX8_init 31 = .ok (.sipush 160, 3) := by decide +kernel
theorem dX8_init_34 : decode cX8_init 34 = .ok (.newarray .int, 2) := by decide +kernel
theorem dX8_init_36 : decode cX8_init 36 = .ok (.putfield 21, 3) := by decide +kernel
theorem dX8_init_39 : decode cX8_init 39 = .ok (.aload_n 0, 1) := by decide +kernel
theorem dX8_init_40 : decode cX8_init 40 = .ok (.bipush 10, 2) := by decide +kernel
theorem dX8_init_42 : decode cX8_init 42 = .ok (.newarray .int, 2) := by decide +kernel
theorem dX8_init_44 : decode cX8_init 44 = .ok (.putfield 24, 3) := by decide +kernel
theorem dX8_init_47 : decode cX8_init 47 = .ok (.aload_n 0, 1) := by decide +kernel
theorem dX8_init_48 : decode cX8_init 48 = .ok (.bipush 10, 2) := by decide +kernel
theorem dX8_init_50 : decode cX8_init 50 = .ok (.newarray .int, 2) := by decide +kernel
theorem dX8_init_52 : decode cX8_init 52 = .ok (.putfield 27, 3) := by decide +kernel
theorem dX8_init_55 : decode cX8_init 55 = .ok (.return_, 1) := by decide +kernel
theorem dX8_begin_0 : decode cX8_begin 0 = .ok (.aload_n 0, 1) := by decide +kernel
theorem dX8_begin_1 : decode cX8_begin 1 = .ok (.aload_n 3, 1) := by decide +kernel
theorem dX8_begin_2 : decode cX8_begin 2 = .ok (.putfield 30, 3) := by decide +kernel
theorem dX8_begin_5 : decode cX8_begin 5 = .ok (.aload_n 0, 1) := by decide +kernel
theorem dX8_begin_6 : decode cX8_begin 6 = .ok (.iconst 0, 1) := by decide +kernel
theorem dX8_begin_7 : decode cX8_begin 7 = .ok (.putfield 34, 3) := by decide +kernel
theorem dX8_begin_10 : decode cX8_begin 10 = .ok (.aload_n 0, 1) := by decide +kernel
theorem dX8_begin_11 : decode cX8_begin 11 = .ok (.iconst 0, 1) := by decide +kernel
theorem dX8_begin_12 : decode cX8_begin 12 = .ok (.putfield 38, 3) := by decide +kernel
theorem dX8_begin_15 : decode cX8_begin 15 = .ok (.aload_n 0, 1) := by decide +kernel
theorem dX8_begin_16 : decode cX8_begin 16 = .ok (.iconst 0, 1) := by decide +kernel
theorem dX8_begin_17 : decode cX8_begin 17 = .ok (.putfield 41, 3) := by decide +kernel
theorem dX8_begin_20 : decode cX8_begin 20 = .ok (.aload_n 0, 1) := by decide +kernel
theorem dX8_begin_21 : decode cX8_begin 21 = .ok (.iconst 0, 1) := by decide +kernel
theorem dX8_begin_22 : decode cX8_begin 22 = .ok (.putfield 45, 3) := by decide +kernel
theorem dX8_begin_25 : decode cX8_begin 25 = .ok (.iconst 0, 1) := by decide +kernel
theorem dX8_begin_26 : decode cX8_begin 26 = .ok (.istore 4, 2) := by decide +kernel
theorem dX8_begin_28 : decode cX8_begin 28 = .ok (.iload 4, 2) := by decide +kernel
theorem dX8_begin_30 : decode cX8_begin 30 = .ok (.bipush 10, 2) := by decide +kernel
theorem dX8_begin_32 : decode cX8_begin 32 = .ok (.if_icmp .ge 44, 3) := by decide +kernel
theorem dX8_begin_35 : decode cX8_begin 35 = .ok (.aload_n 0, 1) := by decide +kernel
theorem dX8_begin_36 : decode cX8_begin 36 = .ok (.getfield 9, 3) := by decide +kernel
theorem dX8_begin_39 : decode cX8_begin 39 = .ok (.iload 4, 2) := by decide +kernel
theorem dX8_begin_41 : decode cX8_begin 41 = .ok (.iconst 0, 1) := by decide +kernel
theorem dX8_begin_42 : decode cX8_begin 42 = .ok (.iastore, 1) := by decide +kernel
theorem dX8_begin_43 : decode cX8_begin 43 = .ok (.iconst 0, 1) := by decide +kernel
theorem dX8_begin_44 : decode cX8_begin 44 = .ok (.istore 5, 2) := by decide +kernel
theorem dX8_begin_46 : decode cX8_begin 46 = .ok (.iload 5, 2) := by decide +kernel
theorem dX8_begin_48 : decode cX8_begin 48 = .ok (.iload_n 2, 1) := by decide +kernel
theorem dX8_begin_49 : decode cX8_begin 49 = .ok (.if_icmp .ge 21, 3) := by decide +kernel
theorem dX8_begin_52 : decode cX8_begin 52 = .ok (.aload_n 0, 1) := by decide +kernel
theorem dX8_begin_53 : decode cX8_begin 53 = .ok (.iload 4, 2) := by decide +kernel
theorem dX8_begin_55 : decode cX8_begin 55 = .ok (.iload 5, 2) := by decide +kernel
theorem dX8_begin_57 : decode cX8_begin 57 = .ok (.aload_n 1, 1) := by decide +kernel
theorem dX8_begin_58 : decode cX8_begin 58 = .ok (.iload 5, 2) := by decide +kernel
theorem dX8_begin_60 : decode cX8_begin 60 = .ok (.aaload, 1) := by decide +kernel
theorem dX8_begin_61 : decode cX8_begin 61 = .ok (.invokevirtual 48, 3) := by decide +kernel
theorem dX8_begin_64 : decode cX8_begin 64 = .ok (.iinc 5 1, 3) := by decide +kernel
theorem dX8_begin_67 : decode cX8_begin 67 = .ok (.goto (-21), 3) := by decide +kernel
theorem dX8_begin_70 : decode cX8_begin 70 = .ok (.iinc 4 1, 3) := by decide +kernel
theorem dX8_begin_73 : decode cX8_begin 73 = .ok (.goto (-45), 3) := by decide +kernel
theorem dX8_begin_76 : decode cX8_begin 76 = .ok (.return_, 1) := by decide +kernel
theorem dX8_addExit_0 : decode cX8_addExit 0 = .ok (.aload_n 3, 1) := by decide +kernel
theorem dX8_addExit_1 : decode cX8_addExit 1 = .ok (.iload_n 1, 1) := by decide +kernel
theorem dX8_addExit_2 : decode cX8_addExit 2 = .ok (.invokevirtual 52, 3) := by decide +kernel
theorem dX8_addExit_5 : decode cX8_addExit 5 = .ok (.istore 4, 2) := by decide +kernel
theorem dX8_addExit_7 : decode cX8_addExit 7 = .ok (.iload 4, 2) := by decide +kernel
theorem dX8_addExit_9 : decode cX8_addExit 9 = .ok (.bipush (-9), 2) := by decide +kernel
theorem dX8_addExit_11 : decode cX8_addExit 11 = .ok (.if_icmp .ne 4, 3) := by decide +kernel
theorem dX8_addExit_14 : decode cX8_addExit 14 = .ok (.return_, 1) := by decide +kernel
theorem dX8_addExit_15 : decode cX8_addExit 15 = .ok (.iload_n 1, 1) := by decide +kernel
theorem dX8_addExit_16 : decode cX8_addExit 16 = .ok (.bipush 16, 2) := by decide +kernel
theorem dX8_addExit_18 : decode cX8_addExit 18 = .ok (.imul, 1) := by decide +kernel
theorem dX8_addExit_19 : decode cX8_addExit 19 = .ok (.aload_n 0, 1) := by decide +kernel
theorem dX8_addExit_20 : decode cX8_addExit 20 = .ok (.getfield 9, 3) := by decide +kernel
theorem dX8_addExit_23 : decode cX8_addExit 23 = .ok (.iload_n 1, 1) := by decide +kernel
theorem dX8_addExit_24 : decode cX8_addExit 24 = .ok (.iaload, 1) := by decide +kernel
theorem dX8_addExit_25 : decode cX8_addExit 25 = .ok (.iadd, 1) := by decide +kernel
theorem dX8_addExit_26 : decode cX8_addExit 26 = .ok (.istore 5, 2) := by decide +kernel
theorem dX8_addExit_28 : decode cX8_addExit 28 = .ok (.aload_n 0, 1) := by decide +kernel
theorem dX8_addExit_29 : decode cX8_addExit 29 = .ok (.getfield 15, 3) := by decide +kernel
theorem dX8_addExit_32 : decode cX8_addExit 32 = .ok (.iload 5, 2) := by decide +kernel
theorem dX8_addExit_34 : decode cX8_addExit 34 = .ok (.iload_n 2, 1) := by decide +kernel
theorem dX8_addExit_35 : decode cX8_addExit 35 = .ok (.iastore, 1) := by decide +kernel
theorem dX8_addExit_36 : decode cX8_addExit 36 = .ok (.aload_n 0, 1) := by decide +kernel
theorem dX8_addExit_37 : decode cX8_addExit 37 = .ok (.getfield 18, 3) := by decide +kernel
theorem dX8_addExit_40 : decode cX8_addExit 40 = .ok (.iload 5, 2) := by decide +kernel
theorem dX8_addExit_42 : decode cX8_addExit 42 = .ok (.iload 4, 2) := by decide +kernel
theorem dX8_addExit_44 : decode cX8_addExit 44 = .ok (.iastore, 1) := by decide +kernel
theorem dX8_addExit_45 : decode cX8_addExit 45 = .ok (.aload_n 0, 1) := by decide +kernel
theorem dX8_addExit_46 : decode cX8_addExit 46 = .ok (.getfield 21, 3) := by decide +kernel
theorem dX8_addExit_49 : decode cX8_addExit 49 = .ok (.iload 5, 2) := by decide +kernel
theorem dX8_addExit_51 : decode cX8_addExit 51 = .ok (.aload_n 3, 1) := by decide +kernel
theorem dX8_addExit_52 : decode cX8_addExit 52 = .ok (.getfield 58, 3) := by decide +kernel
theorem dX8_addExit_55 : decode cX8_addExit 55 = .ok (.iastore, 1) := by decide +kernel
theorem dX8_addExit_56 : decode cX8_addExit 56 = .ok (.aload_n 0, 1) := by decide +kernel
theorem dX8_addExit_57 : decode cX8_addExit 57 = .ok (.getfield 9, 3) := by decide +kernel
theorem dX8_addExit_60 : decode cX8_addExit 60 = .ok (.iload_n 1, 1) := by decide +kernel
theorem dX8_addExit_61 : decode cX8_addExit 61 = .ok (.dup2, 1) := by decide +kernel
theorem dX8_addExit_62 : decode cX8_addExit 62 = .ok (.iaload, 1) := by decide +kernel
theorem dX8_addExit_63 : decode cX8_addExit 63 = .ok (.iconst 1, 1) := by decide +kernel
theorem dX8_addExit_64 : decode cX8_addExit 64 = .ok (.iadd, 1) := by decide +kernel
theorem dX8_addExit_65 : decode cX8_addExit 65 = .ok (.iastore, 1) := by decide +kernel
theorem dX8_addExit_66 : decode cX8_addExit 66 = .ok (.return_, 1) := by decide +kernel
theorem dX8_isInRow_0 : decode cX8_isInRow 0 = .ok (.aload_n 0, 1) := by decide +kernel
theorem dX8_isInRow_1 : decode cX8_isInRow 1 = .ok (.getfield 34, 3) := by decide +kernel
theorem dX8_isInRow_4 : decode cX8_isInRow 4 = .ok (.iload_n 1, 1) := by decide +kernel
theorem dX8_isInRow_5 : decode cX8_isInRow 5 = .ok (.ishr, 1) := by decide +kernel
theorem dX8_isInRow_6 : decode cX8_isInRow 6 = .ok (.iconst 1, 1) := by decide +kernel
theorem dX8_isInRow_7 : decode cX8_isInRow 7 = .ok (.iand, 1) := by decide +kernel
theorem dX8_isInRow_8 : decode cX8_isInRow 8 = .ok (.ifCond .eq 7, 3) := by decide +kernel
theorem dX8_isInRow_11 : decode cX8_isInRow 11 = .ok (.iconst 1, 1) := by decide +kernel
theorem dX8_isInRow_12 : decode cX8_isInRow 12 = .ok (.goto 4, 3) := by decide +kernel
theorem dX8_isInRow_15 : decode cX8_isInRow 15 = .ok (.iconst 0, 1) := by decide +kernel
theorem dX8_isInRow_16 : decode cX8_isInRow 16 = .ok (.ireturn, 1) := by decide +kernel
theorem dX8_isTooLong_0 : decode cX8_isTooLong 0 = .ok (.aload_n 0, 1) := by decide +kernel
theorem dX8_isTooLong_1 : decode cX8_isTooLong 1 = .ok (.getfield 45, 3) := by decide +kernel
theorem dX8_isTooLong_4 : decode cX8_isTooLong 4 = .ok (.ifCond .le 15, 3) := by decide +kernel
theorem dX8_isTooLong_7 : decode cX8_isTooLong 7 = .ok (.iload_n 1, 1) := by decide +kernel
theorem dX8_isTooLong_8 : decode cX8_isTooLong 8 = .ok (.aload_n 0, 1) := by decide +kernel
theorem dX8_isTooLong_9 : decode cX8_isTooLong 9 = .ok (.getfield 61, 3) := by decide +kernel
theorem dX8_isTooLong_12 : decode cX8_isTooLong 12 = .ok (.if_icmp .le 7, 3) := by decide +kernel
theorem dX8_isTooLong_15 : decode cX8_isTooLong 15 = .ok (.iconst 1, 1) := by decide +kernel
theorem dX8_isTooLong_16 : decode cX8_isTooLong 16 = .ok (.goto 4, 3) := by decide +kernel
theorem dX8_isTooLong_19 : decode cX8_isTooLong 19 = .ok (.iconst 0, 1) := by decide +kernel
theorem dX8_isTooLong_20 : decode cX8_isTooLong 20 = .ok (.ireturn, 1) := by decide +kernel
theorem dX8_found_0 : decode cX8_found 0 = .ok (.aload_n 0, 1) := by decide +kernel
theorem dX8_found_1 : decode cX8_found 1 = .ok (.getfield 45, 3) := by decide +kernel
theorem dX8_found_4 : decode cX8_found 4 = .ok (.ifCond .le 22, 3) := by decide +kernel
theorem dX8_found_7 : decode cX8_found 7 = .ok (.iload_n 2, 1) := by decide +kernel
theorem dX8_found_8 : decode cX8_found 8 = .ok (.aload_n 0, 1) := by decide +kernel
theorem dX8_found_9 : decode cX8_found 9 = .ok (.getfield 61, 3) := by decide +kernel
theorem dX8_found_12 : decode cX8_found 12 = .ok (.if_icmp .ne 14, 3) := by decide +kernel
theorem dX8_found_15 : decode cX8_found 15 = .ok (.aload_n 0, 1) := by decide +kernel
theorem dX8_found_16 : decode cX8_found 16 = .ok (.dup, 1) := by decide +kernel
theorem dX8_found_17 : decode cX8_found 17 = .ok (.getfield 45, 3) := by decide +kernel
theorem dX8_found_20 : decode cX8_found 20 = .ok (.iconst 1, 1) := by decide +kernel
theorem dX8_found_21 : decode cX8_found 21 = .ok (.iadd, 1) := by decide +kernel
theorem dX8_found_22 : decode cX8_found 22 = .ok (.putfield 45, 3) := by decide +kernel
theorem dX8_found_25 : decode cX8_found 25 = .ok (.return_, 1) := by decide +kernel
theorem dX8_found_26 : decode cX8_found 26 = .ok (.aload_n 0, 1) := by decide +kernel
theorem dX8_found_27 : decode cX8_found 27 = .ok (.iconst 1, 1) := by decide +kernel
theorem dX8_found_28 : decode cX8_found 28 = .ok (.putfield 45, 3) := by decide +kernel
theorem dX8_found_31 : decode cX8_found 31 = .ok (.aload_n 0, 1) := by decide +kernel
theorem dX8_found_32 : decode cX8_found 32 = .ok (.iload_n 2, 1) := by decide +kernel
theorem dX8_found_33 : decode cX8_found 33 = .ok (.putfield 61, 3) := by decide +kernel
theorem dX8_found_36 : decode cX8_found 36 = .ok (.aload_n 0, 1) := by decide +kernel
theorem dX8_found_37 : decode cX8_found 37 = .ok (.iload_n 1, 1) := by decide +kernel
theorem dX8_found_38 : decode cX8_found 38 = .ok (.putfield 64, 3) := by decide +kernel
theorem dX8_found_41 : decode cX8_found 41 = .ok (.iconst 0, 1) := by decide +kernel
theorem dX8_found_42 : decode cX8_found 42 = .ok (.istore_n 3, 1) := by decide +kernel
theorem dX8_found_43 : decode cX8_found 43 = .ok (.iload_n 3, 1) := by decide +kernel
theorem dX8_found_44 : decode cX8_found 44 = .ok (.iload_n 1, 1) := by decide +kernel
theorem dX8_found_45 : decode cX8_found 45 = .ok (.if_icmp .ge 21, 3) := by decide +kernel
theorem dX8_found_48 : decode cX8_found 48 = .ok (.aload_n 0, 1) := by decide +kernel
theorem dX8_found_49 : decode cX8_found 49 = .ok (.getfield 27, 3) := by decide +kernel
theorem dX8_found_52 : decode cX8_found 52 = .ok (.iload_n 3, 1) := by decide +kernel
theorem dX8_found_53 : decode cX8_found 53 = .ok (.aload_n 0, 1) := by decide +kernel
theorem dX8_found_54 : decode cX8_found 54 = .ok (.getfield 24, 3) := by decide +kernel
theorem dX8_found_57 : decode cX8_found 57 = .ok (.iload_n 3, 1) := by decide +kernel
theorem dX8_found_58 : decode cX8_found 58 = .ok (.iaload, 1) := by decide +kernel
theorem dX8_found_59 : decode cX8_found 59 = .ok (.iastore, 1) := by decide +kernel
theorem dX8_found_60 : decode cX8_found 60 = .ok (.iinc 3 1, 3) := by decide +kernel
theorem dX8_found_63 : decode cX8_found 63 = .ok (.goto (-20), 3) := by decide +kernel
theorem dX8_found_66 : decode cX8_found 66 = .ok (.return_, 1) := by decide +kernel
theorem dX9_init_0 : decode cX9_init 0 = .ok (.aload_n 0, 1) := by decide +kernel
theorem dX9_init_1 : decode cX9_init 1 = .ok (.invokespecial 3, 3) := by decide +kernel
theorem dX9_init_4 : decode cX9_init 4 = .ok (.aload_n 0, 1) := by decide +kernel
theorem dX9_init_5 : decode cX9_init 5 = .ok (.bipush 32, 2) := by decide +kernel
theorem dX9_init_7 : decode cX9_init 7 = .ok (.newarray .int, 2) := by decide +kernel
theorem dX9_init_9 : decode cX9_init 9 = .ok (.putfield 9, 3) := by decide +kernel
theorem dX9_init_12 : decode cX9_init 12 = .ok (.return_, 1) := by decide +kernel
theorem dX9_begin_0 : decode cX9_begin 0 = .ok (.aload_n 0, 1) := by decide +kernel
theorem dX9_begin_1 : decode cX9_begin 1 = .ok (.iconst 1, 1) := by decide +kernel
theorem dX9_begin_2 : decode cX9_begin 2 = .ok (.putfield 15, 3) := by decide +kernel
theorem dX9_begin_5 : decode cX9_begin 5 = .ok (.aload_n 0, 1) := by decide +kernel
theorem dX9_begin_6 : decode cX9_begin 6 = .ok (.iload_n 1, 1) := by decide +kernel
theorem dX9_begin_7 : decode cX9_begin 7 = .ok (.putfield 19, 3) := by decide +kernel
theorem dX9_begin_10 : decode cX9_begin 10 = .ok (.aload_n 0, 1) := by decide +kernel
theorem dX9_begin_11 : decode cX9_begin 11 = .ok (.iload_n 2, 1) := by decide +kernel
theorem dX9_begin_12 : decode cX9_begin 12 = .ok (.putfield 23, 3) := by decide +kernel
theorem dX9_begin_15 : decode cX9_begin 15 = .ok (.iconst 0, 1) := by decide +kernel
theorem dX9_begin_16 : decode cX9_begin 16 = .ok (.istore_n 3, 1) := by decide +kernel
theorem dX9_begin_17 : decode cX9_begin 17 = .ok (.iload_n 3, 1) := by decide +kernel
theorem dX9_begin_18 : decode cX9_begin 18 = .ok (.bipush 32, 2) := by decide +kernel
theorem dX9_begin_20 : decode cX9_begin 20 = .ok (.if_icmp .ge 16, 3) := by decide +kernel
theorem dX9_begin_23 : decode cX9_begin 23 = .ok (.aload_n 0, 1) := by decide +kernel
theorem dX9_begin_24 : decode cX9_begin 24 = .ok (.getfield 9, 3) := by decide +kernel
theorem dX9_begin_27 : decode cX9_begin 27 = .ok (.iload_n 3, 1) := by decide +kernel
theorem dX9_begin_28 : decode cX9_begin 28 = .ok (.iconst 0, 1) := by decide +kernel
theorem dX9_begin_29 : decode cX9_begin 29 = .ok (.iastore, 1) := by decide +kernel
theorem dX9_begin_30 : decode cX9_begin 30 = .ok (.iinc 3 1, 3) := by decide +kernel
theorem dX9_begin_33 : decode cX9_begin 33 = .ok (.goto (-16), 3) := by decide +kernel
theorem dX9_begin_36 : decode cX9_begin 36 = .ok (.return_, 1) := by decide +kernel
theorem dX9_holds_0 : decode cX9_holds 0 = .ok (.iload_n 1, 1) := by decide +kernel
theorem dX9_holds_1 : decode cX9_holds 1 = .ok (.ifCond .lt 25, 3) := by decide +kernel
theorem dX9_holds_4 : decode cX9_holds 4 = .ok (.iload_n 1, 1) := by decide +kernel
theorem dX9_holds_5 : decode cX9_holds 5 = .ok (.aload_n 0, 1) := by decide +kernel
theorem dX9_holds_6 : decode cX9_holds 6 = .ok (.getfield 23, 3) := by decide +kernel
theorem dX9_holds_9 : decode cX9_holds 9 = .ok (.if_icmp .gt 17, 3) := by decide +kernel
theorem dX9_holds_12 : decode cX9_holds 12 = .ok (.iload_n 2, 1) := by decide +kernel
theorem dX9_holds_13 : decode cX9_holds 13 = .ok (.aload_n 0, 1) := by decide +kernel
theorem dX9_holds_14 : decode cX9_holds 14 = .ok (.getfield 23, 3) := by decide +kernel
theorem dX9_holds_17 : decode cX9_holds 17 = .ok (.iload_n 1, 1) := by decide +kernel
theorem dX9_holds_18 : decode cX9_holds 18 = .ok (.isub, 1) := by decide +kernel
theorem dX9_holds_19 : decode cX9_holds 19 = .ok (.if_icmp .gt 7, 3) := by decide +kernel
theorem dX9_holds_22 : decode cX9_holds 22 = .ok (.iconst 1, 1) := by decide +kernel
theorem dX9_holds_23 : decode cX9_holds 23 = .ok (.goto 4, 3) := by decide +kernel
theorem dX9_holds_26 : decode cX9_holds 26 = .ok (.iconst 0, 1) := by decide +kernel
theorem dX9_holds_27 : decode cX9_holds 27 = .ok (.ireturn, 1) := by decide +kernel
theorem dX9_faultOfCells_0 : decode cX9_faultOfCells 0 = .ok (.aload_n 0, 1) := by decide +kernel
theorem dX9_faultOfCells_1 : decode cX9_faultOfCells 1 = .ok (.getfield 15, 3) := by decide +kernel
theorem dX9_faultOfCells_4 : decode cX9_faultOfCells 4 = .ok (.ifCond .eq 13, 3) := by decide +kernel
theorem dX9_faultOfCells_7 : decode cX9_faultOfCells 7 = .ok (.aload_n 0, 1) := by decide +kernel
theorem dX9_faultOfCells_8 : decode cX9_faultOfCells 8 = .ok (.getfield 19, 3) := by decide +kernel
theorem dX9_faultOfCells_11 : decode cX9_faultOfCells 11 = .ok (.iload_n 1, 1) := by decide +kernel
theorem dX9_faultOfCells_12 : decode cX9_faultOfCells 12 = .ok (.if_icmp .eq 5, 3) := by decide +kernel
theorem dX9_faultOfCells_15 : decode cX9_faultOfCells 15 = .ok (.iconst 2, 1) := by decide +kernel
theorem dX9_faultOfCells_16 : decode cX9_faultOfCells 16 = .ok (.ireturn, 1) := by decide +kernel
theorem dX9_faultOfCells_17 : decode cX9_faultOfCells 17 = .ok (.aload_n 0, 1) := by decide +kernel
theorem dX9_faultOfCells_18 : decode cX9_faultOfCells 18 = .ok (.getfield 15, 3) := by decide +kernel
theorem dX9_faultOfCells_21 : decode cX9_faultOfCells 21 = .ok (.ifCond .ne 5, 3) := by decide +kernel
theorem dX9_faultOfCells_24 : decode cX9_faultOfCells 24 = .ok (.iconst 1, 1) := by decide +kernel
theorem dX9_faultOfCells_25 : decode cX9_faultOfCells 25 = .ok (.ireturn, 1) := by decide +kernel
theorem dX9_faultOfCells_26 : decode cX9_faultOfCells 26 = .ok (.iload_n 3, 1) := by decide +kernel
theorem dX9_faultOfCells_27 : decode cX9_faultOfCells 27 = .ok (.ifCond .ge 5, 3) := by decide +kernel
theorem dX9_faultOfCells_30 : decode cX9_faultOfCells 30 = .ok (.iconst 4, 1) := by decide +kernel
theorem dX9_faultOfCells_31 : decode cX9_faultOfCells 31 = .ok (.ireturn, 1) := by decide +kernel
theorem dX9_faultOfCells_32 : decode cX9_faultOfCells 32 = .ok (.aload_n 0, 1) := by decide +kernel
theorem dX9_faultOfCells_33 : decode cX9_faultOfCells 33 = .ok (.iload_n 2, 1) := by decide +kernel
theorem dX9_faultOfCells_34 : decode cX9_faultOfCells 34 = .ok (.iload_n 3, 1) := by decide +kernel
theorem dX9_faultOfCells_35 : decode cX9_faultOfCells 35 = .ok (.invokevirtual 26, 3) := by decide +kernel
theorem dX9_faultOfCells_38 : decode cX9_faultOfCells 38 = .ok (.ifCond .eq 7, 3) := by decide +kernel
theorem dX9_faultOfCells_41 : decode cX9_faultOfCells 41 = .ok (.iconst 0, 1) := by decide +kernel
theorem dX9_faultOfCells_42 : decode cX9_faultOfCells 42 = .ok (.goto 4, 3) := by decide +kernel
theorem dX9_faultOfCells_45 : decode cX9_faultOfCells 45 = .ok (.iconst 3, 1) := by decide +kernel
theorem dX9_faultOfCells_46 : decode cX9_faultOfCells 46 = .ok (.ireturn, 1) := by decide +kernel
theorem dX10_init_0 : decode cX10_init 0 = .ok (.aload_n 0, 1) := by decide +kernel
theorem dX10_init_1 : decode cX10_init 1 = .ok (.invokespecial 3, 3) := by decide +kernel
theorem dX10_init_4 : decode cX10_init 4 = .ok (.aload_n 0, 1) := by decide +kernel
theorem dX10_init_5 : decode cX10_init 5 = .ok (.bipush 10, 2) := by decide +kernel
theorem dX10_init_7 : decode cX10_init 7 = .ok (.newarray .int, 2) := by decide +kernel
theorem dX10_init_9 : decode cX10_init 9 = .ok (.putfield 9, 3) := by decide +kernel
theorem dX10_init_12 : decode cX10_init 12 = .ok (.aload_n 0, 1) := by decide +kernel
theorem dX10_init_13 : decode cX10_init 13 = .ok (.bipush 10, 2) := by decide +kernel
theorem dX10_init_15 : decode cX10_init 15 = .ok (.newarray .int, 2) := by decide +kernel
theorem dX10_init_17 : decode cX10_init 17 = .ok (.putfield 15, 3) := by decide +kernel
theorem dX10_init_20 : decode cX10_init 20 = .ok (.aload_n 0, 1) := by decide +kernel
theorem dX10_init_21 : decode cX10_init 21 = .ok (.bipush 8, 2) := by decide +kernel
theorem dX10_init_23 : decode cX10_init 23 = .ok (.newarray .int, 2) := by decide +kernel
theorem dX10_init_25 : decode cX10_init 25 = .ok (.putfield 18, 3) := by decide +kernel
theorem dX10_init_28 : decode cX10_init 28 = .ok (.aload_n 0, 1) := by decide +kernel
theorem dX10_init_29 : decode cX10_init 29 = .ok (.bipush 8, 2) := by decide +kernel
theorem dX10_init_31 : decode cX10_init 31 = .ok (.newarray .int, 2) := by decide +kernel
theorem dX10_init_33 : decode cX10_init 33 = .ok (.putfield 21, 3) := by decide +kernel
theorem dX10_init_36 : decode cX10_init 36 = .ok (.return_, 1) := by decide +kernel
theorem dX10_begin_0 : decode cX10_begin 0 = .ok (.aload_n 0, 1) := by decide +kernel
theorem dX10_begin_1 : decode cX10_begin 1 = .ok (.iconst 0, 1) := by decide +kernel
theorem dX10_begin_2 : decode cX10_begin 2 = .ok (.putfield 24, 3) := by decide +kernel
theorem dX10_begin_5 : decode cX10_begin 5 = .ok (.aload_n 0, 1) := by decide +kernel
theorem dX10_begin_6 : decode cX10_begin 6 = .ok (.iconst 0, 1) := by decide +kernel
theorem dX10_begin_7 : decode cX10_begin 7 = .ok (.putfield 28, 3) := by decide +kernel
theorem dX10_begin_10 : decode cX10_begin 10 = .ok (.aload_n 0, 1) := by decide +kernel
theorem dX10_begin_11 : decode cX10_begin 11 = .ok (.iconst 0, 1) := by decide +kernel
theorem dX10_begin_12 : decode cX10_begin 12 = .ok (.putfield 31, 3) := by decide +kernel
theorem dX10_begin_15 : decode cX10_begin 15 = .ok (.return_, 1) := by decide +kernel
theorem dX10_addRoad_0 : decode cX10_addRoad 0 = .ok (.aload_n 0, 1) := by decide +kernel
theorem dX10_addRoad_1 : decode cX10_addRoad 1 = .ok (.getfield 24, 3) := by decide +kernel
theorem dX10_addRoad_4 : decode cX10_addRoad 4 = .ok (.bipush 10, 2) := by decide +kernel
theorem dX10_addRoad_6 : decode cX10_addRoad 6 = .ok (.if_icmp .ge 46, 3) := by decide +kernel
theorem dX10_addRoad_9 : decode cX10_addRoad 9 = .ok (.aload_n 0, 1) := by decide +kernel
theorem dX10_addRoad_10 : decode cX10_addRoad 10 = .ok (.dup, 1) := by decide +kernel
theorem dX10_addRoad_11 : decode cX10_addRoad 11 = .ok (.getfield 28, 3) := by decide +kernel
theorem dX10_addRoad_14 : decode cX10_addRoad 14 = .ok (.iload_n 2, 1) := by decide +kernel
theorem dX10_addRoad_15 : decode cX10_addRoad 15 = .ok (.iadd, 1) := by decide +kernel
theorem dX10_addRoad_16 : decode cX10_addRoad 16 = .ok (.putfield 28, 3) := by decide +kernel
theorem dX10_addRoad_19 : decode cX10_addRoad 19 = .ok (.aload_n 0, 1) := by decide +kernel
theorem dX10_addRoad_20 : decode cX10_addRoad 20 = .ok (.getfield 9, 3) := by decide +kernel
theorem dX10_addRoad_23 : decode cX10_addRoad 23 = .ok (.aload_n 0, 1) := by decide +kernel
theorem dX10_addRoad_24 : decode cX10_addRoad 24 = .ok (.getfield 24, 3) := by decide +kernel
theorem dX10_addRoad_27 : decode cX10_addRoad 27 = .ok (.iload_n 1, 1) := by decide +kernel
theorem dX10_addRoad_28 : decode cX10_addRoad 28 = .ok (.iastore, 1) := by decide +kernel
theorem dX10_addRoad_29 : decode cX10_addRoad 29 = .ok (.aload_n 0, 1) := by decide +kernel
theorem dX10_addRoad_30 : decode cX10_addRoad 30 = .ok (.getfield 15, 3) := by decide +kernel
theorem dX10_addRoad_33 : decode cX10_addRoad 33 = .ok (.aload_n 0, 1) := by decide +kernel
theorem dX10_addRoad_34 : decode cX10_addRoad 34 = .ok (.getfield 24, 3) := by decide +kernel
theorem dX10_addRoad_37 : decode cX10_addRoad 37 = .ok (.aload_n 0, 1) := by decide +kernel
theorem dX10_addRoad_38 : decode cX10_addRoad 38 = .ok (.getfield 28, 3) := by decide +kernel
theorem dX10_addRoad_41 : decode cX10_addRoad 41 = .ok (.iastore, 1) := by decide +kernel
theorem dX10_addRoad_42 : decode cX10_addRoad 42 = .ok (.aload_n 0, 1) := by decide +kernel
theorem dX10_addRoad_43 : decode cX10_addRoad 43 = .ok (.dup, 1) := by decide +kernel
theorem dX10_addRoad_44 : decode cX10_addRoad 44 = .ok (.getfield 24, 3) := by decide +kernel
theorem dX10_addRoad_47 : decode cX10_addRoad 47 = .ok (.iconst 1, 1) := by decide +kernel
theorem dX10_addRoad_48 : decode cX10_addRoad 48 = .ok (.iadd, 1) := by decide +kernel
theorem dX10_addRoad_49 : decode cX10_addRoad 49 = .ok (.putfield 24, 3) := by decide +kernel
theorem dX10_addRoad_52 : decode cX10_addRoad 52 = .ok (.return_, 1) := by decide +kernel
theorem dX10_placeOfRoad_0 : decode cX10_placeOfRoad 0 = .ok (.iconst 0, 1) := by decide +kernel
theorem dX10_placeOfRoad_1 : decode cX10_placeOfRoad 1 = .ok (.istore_n 2, 1) := by decide +kernel
theorem dX10_placeOfRoad_2 : decode cX10_placeOfRoad 2 = .ok (.iload_n 2, 1) := by decide +kernel
theorem dX10_placeOfRoad_3 : decode cX10_placeOfRoad 3 = .ok (.aload_n 0, 1) := by decide +kernel
theorem dX10_placeOfRoad_4 : decode cX10_placeOfRoad 4 = .ok (.getfield 24, 3) := by decide +kernel
theorem dX10_placeOfRoad_7 : decode cX10_placeOfRoad 7 = .ok (.if_icmp .ge 21, 3) := by decide +kernel
theorem dX10_placeOfRoad_10 : decode cX10_placeOfRoad 10 = .ok (.aload_n 0, 1) := by decide +kernel
theorem dX10_placeOfRoad_11 : decode cX10_placeOfRoad 11 = .ok (.getfield 9, 3) := by decide +kernel
theorem dX10_placeOfRoad_14 : decode cX10_placeOfRoad 14 = .ok (.iload_n 2, 1) := by decide +kernel
theorem dX10_placeOfRoad_15 : decode cX10_placeOfRoad 15 = .ok (.iaload, 1) := by decide +kernel
theorem dX10_placeOfRoad_16 : decode cX10_placeOfRoad 16 = .ok (.iload_n 1, 1) := by decide +kernel
theorem dX10_placeOfRoad_17 : decode cX10_placeOfRoad 17 = .ok (.if_icmp .ne 5, 3) := by decide +kernel
theorem dX10_placeOfRoad_20 : decode cX10_placeOfRoad 20 = .ok (.iload_n 2, 1) := by decide +kernel
theorem dX10_placeOfRoad_21 : decode cX10_placeOfRoad 21 = .ok (.ireturn, 1) := by decide +kernel
theorem dX10_placeOfRoad_22 : decode cX10_placeOfRoad 22 = .ok (.iinc 2 1, 3) := by decide +kernel
theorem dX10_placeOfRoad_25 : decode cX10_placeOfRoad 25 = .ok (.goto (-23), 3) := by decide +kernel
theorem dX10_placeOfRoad_28 : decode cX10_placeOfRoad 28 = .ok (.bipush (-9), 2) := by decide +kernel
theorem dX10_placeOfRoad_30 : decode cX10_placeOfRoad 30 = .ok (.ireturn, 1) := by decide +kernel
theorem dX10_roadUnder_0 : decode cX10_roadUnder 0 = .ok (.iconst 0, 1) := by decide +kernel
theorem dX10_roadUnder_1 : decode cX10_roadUnder 1 = .ok (.istore_n 2, 1) := by decide +kernel
theorem dX10_roadUnder_2 : decode cX10_roadUnder 2 = .ok (.iload_n 2, 1) := by decide +kernel
theorem dX10_roadUnder_3 : decode cX10_roadUnder 3 = .ok (.aload_n 0, 1) := by decide +kernel
theorem dX10_roadUnder_4 : decode cX10_roadUnder 4 = .ok (.getfield 24, 3) := by decide +kernel
theorem dX10_roadUnder_7 : decode cX10_roadUnder 7 = .ok (.if_icmp .ge 26, 3) := by decide +kernel
theorem dX10_roadUnder_10 : decode cX10_roadUnder 10 = .ok (.iload_n 1, 1) := by decide +kernel
theorem dX10_roadUnder_11 : decode cX10_roadUnder 11 = .ok (.aload_n 0, 1) := by decide +kernel
theorem dX10_roadUnder_12 : decode cX10_roadUnder 12 = .ok (.getfield 15, 3) := by decide +kernel
theorem dX10_roadUnder_15 : decode cX10_roadUnder 15 = .ok (.iload_n 2, 1) := by decide +kernel
theorem dX10_roadUnder_16 : decode cX10_roadUnder 16 = .ok (.iaload, 1) := by decide +kernel
theorem dX10_roadUnder_17 : decode cX10_roadUnder 17 = .ok (.if_icmp .ge 10, 3) := by decide +kernel
theorem dX10_roadUnder_20 : decode cX10_roadUnder 20 = .ok (.aload_n 0, 1) := by decide +kernel
theorem dX10_roadUnder_21 : decode cX10_roadUnder 21 = .ok (.getfield 9, 3) := by decide +kernel
theorem dX10_roadUnder_24 : decode cX10_roadUnder 24 = .ok (.iload_n 2, 1) := by decide +kernel
theorem dX10_roadUnder_25 : decode cX10_roadUnder 25 = .ok (.iaload, 1) := by decide +kernel
theorem dX10_roadUnder_26 : decode cX10_roadUnder 26 = .ok (.ireturn, 1) := by decide +kernel
theorem dX10_roadUnder_27 : decode cX10_roadUnder 27 = .ok (.iinc 2 1, 3) := by decide +kernel
theorem dX10_roadUnder_30 : decode cX10_roadUnder 30 = .ok (.goto (-28), 3) := by decide +kernel
theorem dX10_roadUnder_33 : decode cX10_roadUnder 33 = .ok (.aload_n 0, 1) := by decide +kernel
theorem dX10_roadUnder_34 : decode cX10_roadUnder 34 = .ok (.getfield 24, 3) := by decide +kernel
theorem dX10_roadUnder_37 : decode cX10_roadUnder 37 = .ok (.ifCond .le 17, 3) := by decide +kernel
theorem dX10_roadUnder_40 : decode cX10_roadUnder 40 = .ok (.aload_n 0, 1) := by decide +kernel
theorem dX10_roadUnder_41 : decode cX10_roadUnder 41 = .ok (.getfield 9, 3) := by decide +kernel
theorem dX10_roadUnder_44 : decode cX10_roadUnder 44 = .ok (.aload_n 0, 1) := by decide +kernel
theorem dX10_roadUnder_45 : decode cX10_roadUnder 45 = .ok (.getfield 24, 3) := by decide +kernel
theorem dX10_roadUnder_48 : decode cX10_roadUnder 48 = .ok (.iconst 1, 1) := by decide +kernel
theorem dX10_roadUnder_49 : decode cX10_roadUnder 49 = .ok (.isub, 1) := by decide +kernel
theorem dX10_roadUnder_50 : decode cX10_roadUnder 50 = .ok (.iaload, 1) := by decide +kernel
theorem dX10_roadUnder_51 : decode cX10_roadUnder 51 = .ok (.goto 5, 3) := by decide +kernel
theorem dX10_roadUnder_54 : decode cX10_roadUnder 54 = .ok (.bipush (-9), 2) := by decide +kernel
theorem dX10_roadUnder_56 : decode cX10_roadUnder 56 = .ok (.ireturn, 1) := by decide +kernel
theorem dX10_addSpeed_0 : decode cX10_addSpeed 0 = .ok (.aload_n 0, 1) := by decide +kernel
theorem dX10_addSpeed_1 : decode cX10_addSpeed 1 = .ok (.getfield 31, 3) := by decide +kernel
theorem dX10_addSpeed_4 : decode cX10_addSpeed 4 = .ok (.bipush 8, 2) := by decide +kernel
theorem dX10_addSpeed_6 : decode cX10_addSpeed 6 = .ok (.if_icmp .ge 33, 3) := by decide +kernel
theorem dX10_addSpeed_9 : decode cX10_addSpeed 9 = .ok (.aload_n 0, 1) := by decide +kernel
theorem dX10_addSpeed_10 : decode cX10_addSpeed 10 = .ok (.getfield 18, 3) := by decide +kernel
theorem dX10_addSpeed_13 : decode cX10_addSpeed 13 = .ok (.aload_n 0, 1) := by decide +kernel
theorem dX10_addSpeed_14 : decode cX10_addSpeed 14 = .ok (.getfield 31, 3) := by decide +kernel
theorem dX10_addSpeed_17 : decode cX10_addSpeed 17 = .ok (.iload_n 1, 1) := by decide +kernel
theorem dX10_addSpeed_18 : decode cX10_addSpeed 18 = .ok (.iastore, 1) := by decide +kernel
theorem dX10_addSpeed_19 : decode cX10_addSpeed 19 = .ok (.aload_n 0, 1) := by decide +kernel
theorem dX10_addSpeed_20 : decode cX10_addSpeed 20 = .ok (.getfield 21, 3) := by decide +kernel
theorem dX10_addSpeed_23 : decode cX10_addSpeed 23 = .ok (.aload_n 0, 1) := by decide +kernel
theorem dX10_addSpeed_24 : decode cX10_addSpeed 24 = .ok (.getfield 31, 3) := by decide +kernel
theorem dX10_addSpeed_27 : decode cX10_addSpeed 27 = .ok (.iload_n 2, 1) := by decide +kernel
theorem dX10_addSpeed_28 : decode cX10_addSpeed 28 = .ok (.iastore, 1) := by decide +kernel
theorem dX10_addSpeed_29 : decode cX10_addSpeed 29 = .ok (.aload_n 0, 1) := by decide +kernel
theorem dX10_addSpeed_30 : decode cX10_addSpeed 30 = .ok (.dup, 1) := by decide +kernel
theorem dX10_addSpeed_31 : decode cX10_addSpeed 31 = .ok (.getfield 31, 3) := by decide +kernel
theorem dX10_addSpeed_34 : decode cX10_addSpeed 34 = .ok (.iconst 1, 1) := by decide +kernel
theorem dX10_addSpeed_35 : decode cX10_addSpeed 35 = .ok (.iadd, 1) := by decide +kernel
theorem dX10_addSpeed_36 : decode cX10_addSpeed 36 = .ok (.putfield 31, 3) := by decide +kernel
theorem dX10_addSpeed_39 : decode cX10_addSpeed 39 = .ok (.return_, 1) := by decide +kernel
theorem dX10_hasFirstSpeed_0 : decode cX10_hasFirstSpeed 0 = .ok (.aload_n 0, 1) := by decide +kernel
theorem dX10_hasFirstSpeed_1 : decode cX10_hasFirstSpeed 1 = .ok (.iconst 0, 1) := by decide +kernel
theorem dX10_hasFirstSpeed_2 : decode cX10_hasFirstSpeed 2 = .ok (.invokevirtual 34, 3) := by decide +kernel
theorem dX10_hasFirstSpeed_5 : decode cX10_hasFirstSpeed 5 = .ok (.ifCond .le 7, 3) := by decide +kernel
theorem dX10_hasFirstSpeed_8 : decode cX10_hasFirstSpeed 8 = .ok (.iconst 1, 1) := by decide +kernel
theorem dX10_hasFirstSpeed_9 : decode cX10_hasFirstSpeed 9 = .ok (.goto 4, 3) := by decide +kernel
theorem dX10_hasFirstSpeed_12 : decode cX10_hasFirstSpeed 12 = .ok (.iconst 0, 1) := by decide +kernel
theorem dX10_hasFirstSpeed_13 : decode cX10_hasFirstSpeed 13 = .ok (.ireturn, 1) := by decide +kernel
theorem dX10_speedFrom_0 : decode cX10_speedFrom 0 = .ok (.iconst 0, 1) := by decide +kernel
theorem dX10_speedFrom_1 : decode cX10_speedFrom 1 = .ok (.istore_n 2, 1) := by decide +kernel
theorem dX10_speedFrom_2 : decode cX10_speedFrom 2 = .ok (.iconst 0, 1) := by decide +kernel
theorem dX10_speedFrom_3 : decode cX10_speedFrom 3 = .ok (.istore_n 3, 1) := by decide +kernel
theorem dX10_speedFrom_4 : decode cX10_speedFrom 4 = .ok (.iload_n 3, 1) := by decide +kernel
theorem dX10_speedFrom_5 : decode cX10_speedFrom 5 = .ok (.aload_n 0, 1) := by decide +kernel
theorem dX10_speedFrom_6 : decode cX10_speedFrom 6 = .ok (.getfield 31, 3) := by decide +kernel
theorem dX10_speedFrom_9 : decode cX10_speedFrom 9 = .ok (.if_icmp .ge 26, 3) := by decide +kernel
theorem dX10_speedFrom_12 : decode cX10_speedFrom 12 = .ok (.aload_n 0, 1) := by decide +kernel
theorem dX10_speedFrom_13 : decode cX10_speedFrom 13 = .ok (.getfield 18, 3) := by decide +kernel
theorem dX10_speedFrom_16 : decode cX10_speedFrom 16 = .ok (.iload_n 3, 1) := by decide +kernel
theorem dX10_speedFrom_17 : decode cX10_speedFrom 17 = .ok (.iaload, 1) := by decide +kernel
theorem dX10_speedFrom_18 : decode cX10_speedFrom 18 = .ok (.iload_n 1, 1) := by decide +kernel
theorem dX10_speedFrom_19 : decode cX10_speedFrom 19 = .ok (.if_icmp .ne 10, 3) := by decide +kernel
theorem dX10_speedFrom_22 : decode cX10_speedFrom 22 = .ok (.aload_n 0, 1) := by decide +kernel
theorem dX10_speedFrom_23 : decode cX10_speedFrom 23 = .ok (.getfield 21, 3) := by decide +kernel
theorem dX10_speedFrom_26 : decode cX10_speedFrom 26 = .ok (.iload_n 3, 1) := by decide +kernel
theorem dX10_speedFrom_27 : decode cX10_speedFrom 27 = .ok (.iaload, 1) := by decide +kernel
theorem dX10_speedFrom_28 : decode cX10_speedFrom 28 = .ok (.istore_n 2, 1) := by decide +kernel
theorem dX10_speedFrom_29 : decode cX10_speedFrom 29 = .ok (.iinc 3 1, 3) := by decide +kernel
theorem dX10_speedFrom_32 : decode cX10_speedFrom 32 = .ok (.goto (-28), 3) := by decide +kernel
theorem dX10_speedFrom_35 : decode cX10_speedFrom 35 = .ok (.iload_n 2, 1) := by decide +kernel
theorem dX10_speedFrom_36 : decode cX10_speedFrom 36 = .ok (.ireturn, 1) := by decide +kernel
theorem dX10_dueAt_0 : decode cX10_dueAt 0 = .ok (.lconst 0, 1) := by decide +kernel
theorem dX10_dueAt_1 : decode cX10_dueAt 1 = .ok (.lstore_n 2, 1) := by decide +kernel
theorem dX10_dueAt_2 : decode cX10_dueAt 2 = .ok (.iconst 0, 1) := by decide +kernel
theorem dX10_dueAt_3 : decode cX10_dueAt 3 = .ok (.istore 4, 2) := by decide +kernel
theorem dX10_dueAt_5 : decode cX10_dueAt 5 = .ok (.iconst 0, 1) := by decide +kernel
theorem dX10_dueAt_6 : decode cX10_dueAt 6 = .ok (.istore 5, 2) := by decide +kernel
theorem dX10_dueAt_8 : decode cX10_dueAt 8 = .ok (.iload 5, 2) := by decide +kernel
theorem dX10_dueAt_10 : decode cX10_dueAt 10 = .ok (.bipush 8, 2) := by decide +kernel
theorem dX10_dueAt_12 : decode cX10_dueAt 12 = .ok (.if_icmp .ge 58, 3) := by decide +kernel
theorem dX10_dueAt_15 : decode cX10_dueAt 15 = .ok (.iload 4, 2) := by decide +kernel
theorem dX10_dueAt_17 : decode cX10_dueAt 17 = .ok (.iload_n 1, 1) := by decide +kernel
theorem dX10_dueAt_18 : decode cX10_dueAt 18 = .ok (.if_icmp .ge 52, 3) := by decide +kernel
theorem dX10_dueAt_21 : decode cX10_dueAt 21 = .ok (.aload_n 0, 1) := by decide +kernel
theorem dX10_dueAt_22 : decode cX10_dueAt 22 = .ok (.iload 4, 2) := by decide +kernel
theorem dX10_dueAt_24 : decode cX10_dueAt 24 = .ok (.iload_n 1, 1) := by decide +kernel
theorem dX10_dueAt_25 : decode cX10_dueAt 25 = .ok (.invokevirtual 38, 3) := by decide +kernel
theorem dX10_dueAt_28 : decode cX10_dueAt 28 = .ok (.istore 6, 2) := by decide +kernel
theorem dX10_dueAt_30 : decode cX10_dueAt 30 = .ok (.aload_n 0, 1) := by decide +kernel
theorem dX10_dueAt_31 : decode cX10_dueAt 31 = .ok (.iload 4, 2) := by decide +kernel
theorem dX10_dueAt_33 : decode cX10_dueAt 33 = .ok (.invokevirtual 34, 3) := by decide +kernel
theorem dX10_dueAt_36 : decode cX10_dueAt 36 = .ok (.istore 7, 2) := by decide +kernel
theorem dX10_dueAt_38 : decode cX10_dueAt 38 = .ok (.iload 7, 2) := by decide +kernel
theorem dX10_dueAt_40 : decode cX10_dueAt 40 = .ok (.ifCond .le 20, 3) := by decide +kernel
theorem dX10_dueAt_43 : decode cX10_dueAt 43 = .ok (.lload_n 2, 1) := by decide +kernel
theorem dX10_dueAt_44 : decode cX10_dueAt 44 = .ok (.ldc2_w 42, 3) := by decide +kernel
theorem dX10_dueAt_47 : decode cX10_dueAt 47 = .ok (.iload 6, 2) := by decide +kernel
theorem dX10_dueAt_49 : decode cX10_dueAt 49 = .ok (.iload 4, 2) := by decide +kernel
theorem dX10_dueAt_51 : decode cX10_dueAt 51 = .ok (.isub, 1) := by decide +kernel
theorem dX10_dueAt_52 : decode cX10_dueAt 52 = .ok (.i2l, 1) := by decide +kernel
theorem dX10_dueAt_53 : decode cX10_dueAt 53 = .ok (.lmul, 1) := by decide +kernel
theorem dX10_dueAt_54 : decode cX10_dueAt 54 = .ok (.iload 7, 2) := by decide +kernel
theorem dX10_dueAt_56 : decode cX10_dueAt 56 = .ok (.i2l, 1) := by decide +kernel
theorem dX10_dueAt_57 : decode cX10_dueAt 57 = .ok (.ldiv, 1) := by decide +kernel
theorem dX10_dueAt_58 : decode cX10_dueAt 58 = .ok (.ladd, 1) := by decide +kernel
theorem dX10_dueAt_59 : decode cX10_dueAt 59 = .ok (.lstore_n 2, 1) := by decide +kernel
theorem dX10_dueAt_60 : decode cX10_dueAt 60 = .ok (.iload 6, 2) := by decide +kernel
theorem dX10_dueAt_62 : decode cX10_dueAt 62 = .ok (.istore 4, 2) := by decide +kernel
theorem dX10_dueAt_64 : decode cX10_dueAt 64 = .ok (.iinc 5 1, 3) := by decide +kernel
theorem dX10_dueAt_67 : decode cX10_dueAt 67 = .ok (.goto (-59), 3) := by decide +kernel
theorem dX10_dueAt_70 : decode cX10_dueAt 70 = .ok (.lload_n 2, 1) := by decide +kernel
theorem dX10_dueAt_71 : decode cX10_dueAt 71 = .ok (.lreturn, 1) := by decide +kernel
theorem dX10_endOfStretch_0 : decode cX10_endOfStretch 0 = .ok (.iload_n 2, 1) := by decide +kernel
theorem dX10_endOfStretch_1 : decode cX10_endOfStretch 1 = .ok (.istore_n 3, 1) := by decide +kernel
theorem dX10_endOfStretch_2 : decode cX10_endOfStretch 2 = .ok (.iconst 0, 1) := by decide +kernel
theorem dX10_endOfStretch_3 : decode cX10_endOfStretch 3 = .ok (.istore 4, 2) := by decide +kernel
theorem dX10_endOfStretch_5 : decode cX10_endOfStretch 5 = .ok (.iload 4, 2) := by decide +kernel
theorem dX10_endOfStretch_7 : decode cX10_endOfStretch 7 = .ok (.aload_n 0, 1) := by decide +kernel
theorem dX10_endOfStretch_8 : decode cX10_endOfStretch 8 = .ok (.getfield 31, 3) := by decide +kernel
theorem dX10_endOfStretch_11 : decode cX10_endOfStretch 11 = .ok (.if_icmp .ge 39, 3) := by decide +kernel
theorem dX10_endOfStretch_14 : decode cX10_endOfStretch 14 = .ok (.aload_n 0, 1) := by decide +kernel
theorem dX10_endOfStretch_15 : decode cX10_endOfStretch 15 = .ok (.getfield 18, 3) := by decide +kernel
theorem dX10_endOfStretch_18 : decode cX10_endOfStretch 18 = .ok (.iload 4, 2) := by decide +kernel
theorem dX10_endOfStretch_20 : decode cX10_endOfStretch 20 = .ok (.iaload, 1) := by decide +kernel
theorem dX10_endOfStretch_21 : decode cX10_endOfStretch 21 = .ok (.iload_n 1, 1) := by decide +kernel
theorem dX10_endOfStretch_22 : decode cX10_endOfStretch 22 = .ok (.if_icmp .le 22, 3) := by decide +kernel
theorem dX10_endOfStretch_25 : decode cX10_endOfStretch 25 = .ok (.aload_n 0, 1) := by decide +kernel
theorem dX10_endOfStretch_26 : decode cX10_endOfStretch 26 = .ok (.getfield 18, 3) := by decide +kernel
theorem dX10_endOfStretch_29 : decode cX10_endOfStretch 29 = .ok (.iload 4, 2) := by decide +kernel
theorem dX10_endOfStretch_31 : decode cX10_endOfStretch 31 = .ok (.iaload, 1) := by decide +kernel
theorem dX10_endOfStretch_32 : decode cX10_endOfStretch 32 = .ok (.iload_n 3, 1) := by decide +kernel
theorem dX10_endOfStretch_33 : decode cX10_endOfStretch 33 = .ok (.if_icmp .ge 11, 3) := by decide +kernel
theorem dX10_endOfStretch_36 : decode cX10_endOfStretch 36 = .ok (.aload_n 0, 1) := by decide +kernel
theorem dX10_endOfStretch_37 : decode cX10_endOfStretch 37 = .ok (.getfield 18, 3) := by decide +kernel
theorem dX10_endOfStretch_40 : decode cX10_endOfStretch 40 = .ok (.iload 4, 2) := by decide +kernel
theorem dX10_endOfStretch_42 : decode cX10_endOfStretch 42 = .ok (.iaload, 1) := by decide +kernel
theorem dX10_endOfStretch_43 : decode cX10_endOfStretch 43 = .ok (.istore_n 3, 1) := by decide +kernel
theorem dX10_endOfStretch_44 : decode cX10_endOfStretch 44 = .ok (.iinc 4 1, 3) := by decide +kernel
theorem dX10_endOfStretch_47 : decode cX10_endOfStretch 47 = .ok (.goto (-42), 3) := by decide +kernel
theorem dX10_endOfStretch_50 : decode cX10_endOfStretch 50 = .ok (.iload_n 3, 1) := by decide +kernel
theorem dX10_endOfStretch_51 : decode cX10_endOfStretch 51 = .ok (.ireturn, 1) := by decide +kernel
theorem dX11_init_0 : decode cX11_init 0 = .ok (.aload_n 0, 1) := by decide +kernel
theorem dX11_init_1 : decode cX11_init 1 = .ok (.invokespecial 3, 3) := by decide +kernel
theorem dX11_init_4 : decode cX11_init 4 = .ok (.aload_n 0, 1) := by decide +kernel
theorem dX11_init_5 : decode cX11_init 5 = .ok (.bipush 16, 2) := by decide +kernel
theorem dX11_init_7 : decode cX11_init 7 = .ok (.anewarray 11, 3) := by decide +kernel
theorem dX11_init_10 : decode cX11_init 10 = .ok (.putfield 13, 3) := by decide +kernel
theorem dX11_init_13 : decode cX11_init 13 = .ok (.aload_n 0, 1) := by decide +kernel
theorem dX11_init_14 : decode cX11_init 14 = .ok (.new 17, 3) := by decide +kernel
theorem dX11_init_17 : decode cX11_init 17 = .ok (.dup, 1) := by decide +kernel
theorem dX11_init_18 : decode cX11_init 18 = .ok (.invokespecial 19, 3) := by decide +kernel
theorem dX11_init_21 : decode cX11_init 21 = .ok (.putfield 20, 3) := by decide +kernel
theorem dX11_init_24 : decode cX11_init 24 = .ok (.aload_n 0, 1) := by decide +kernel
theorem dX11_init_25 : decode cX11_init 25 = .ok (.new 24, 3) := by decide +kernel
theorem dX11_init_28 : decode cX11_init 28 = .ok (.dup, 1) := by decide +kernel
theorem dX11_init_29 : decode cX11_init 29 = .ok (.invokespecial 26, 3) := by decide +kernel
theorem dX11_init_32 : decode cX11_init 32 = .ok (.putfield 27, 3) := by decide +kernel
theorem dX11_init_35 : decode cX11_init 35 = .ok (.aload_n 0, 1) := by decide +kernel
theorem dX11_init_36 : decode cX11_init 36 = .ok (.new 31, 3) := by decide +kernel
theorem dX11_init_39 : decode cX11_init 39 = .ok (.dup, 1) := by decide +kernel
theorem dX11_init_40 : decode cX11_init 40 = .ok (.invokespecial 33, 3) := by decide +kernel
theorem dX11_init_43 : decode cX11_init 43 = .ok (.putfield 34, 3) := by decide +kernel
theorem dX11_init_46 : decode cX11_init 46 = .ok (.aload_n 0, 1) := by decide +kernel
theorem dX11_init_47 : decode cX11_init 47 = .ok (.bipush 8, 2) := by decide +kernel
theorem dX11_init_49 : decode cX11_init 49 = .ok (.anewarray 38, 3) := by decide +kernel
theorem dX11_init_52 : decode cX11_init 52 = .ok (.putfield 40, 3) := by decide +kernel
theorem dX11_init_55 : decode cX11_init 55 = .ok (.aload_n 0, 1) := by decide +kernel
theorem dX11_init_56 : decode cX11_init 56 = .ok (.bipush 8, 2) := by decide +kernel
theorem dX11_init_58 : decode cX11_init 58 = .ok (.anewarray 44, 3) := by decide +kernel
theorem dX11_init_61 : decode cX11_init 61 = .ok (.putfield 46, 3) := by decide +kernel
theorem dX11_init_64 : decode cX11_init 64 = .ok (.aload_n 0, 1) := by decide +kernel
theorem dX11_init_65 : decode cX11_init 65 = .ok (.iconst 4, 1) := by decide +kernel
theorem dX11_init_66 : decode cX11_init 66 = .ok (.anewarray 50, 3) := by decide +kernel
theorem dX11_init_69 : decode cX11_init 69 = .ok (.putfield 52, 3) := by decide +kernel
theorem dX11_init_72 : decode cX11_init 72 = .ok (.iconst 0, 1) := by decide +kernel
theorem dX11_init_73 : decode cX11_init 73 = .ok (.istore_n 1, 1) := by decide +kernel
theorem dX11_init_74 : decode cX11_init 74 = .ok (.iload_n 1, 1) := by decide +kernel
theorem dX11_init_75 : decode cX11_init 75 = .ok (.iconst 4, 1) := by decide +kernel
theorem dX11_init_76 : decode cX11_init 76 = .ok (.if_icmp .ge 22, 3) := by decide +kernel
theorem dX11_init_79 : decode cX11_init 79 = .ok (.aload_n 0, 1) := by decide +kernel
theorem dX11_init_80 : decode cX11_init 80 = .ok (.getfield 52, 3) := by decide +kernel
theorem dX11_init_83 : decode cX11_init 83 = .ok (.iload_n 1, 1) := by decide +kernel
theorem dX11_init_84 : decode cX11_init 84 = .ok (.new 50, 3) := by decide +kernel
theorem dX11_init_87 : decode cX11_init 87 = .ok (.dup, 1) := by decide +kernel
theorem dX11_init_88 : decode cX11_init 88 = .ok (.invokespecial 56, 3) := by decide +kernel
theorem dX11_init_91 : decode cX11_init 91 = .ok (.aastore, 1) := by decide +kernel
theorem dX11_init_92 : decode cX11_init 92 = .ok (.iinc 1 1, 3) := by decide +kernel
theorem dX11_init_95 : decode cX11_init 95 = .ok (.goto (-21), 3) := by decide +kernel
theorem dX11_init_98 : decode cX11_init 98 = .ok (.return_, 1) := by decide +kernel
theorem dX11_road_0 : decode cX11_road 0 = .ok (.iload_n 1, 1) := by decide +kernel
theorem dX11_road_1 : decode cX11_road 1 = .ok (.invokestatic 57, 3) := by decide +kernel
theorem dX11_road_4 : decode cX11_road 4 = .ok (.ifCond .eq 10, 3) := by decide +kernel
theorem dX11_road_7 : decode cX11_road 7 = .ok (.iload_n 2, 1) := by decide +kernel
theorem dX11_road_8 : decode cX11_road 8 = .ok (.invokestatic 57, 3) := by decide +kernel
theorem dX11_road_11 : decode cX11_road 11 = .ok (.ifCond .ne 5, 3) := by decide +kernel
theorem dX11_road_14 : decode cX11_road 14 = .ok (.iconst (-1), 1) := by decide +kernel
theorem dX11_road_15 : decode cX11_road 15 = .ok (.ireturn, 1) := by decide +kernel
theorem dX11_road_16 : decode cX11_road 16 = .ok (.iload_n 1, 1) := by decide +kernel
theorem dX11_road_17 : decode cX11_road 17 = .ok (.iload_n 2, 1) := by decide +kernel
theorem dX11_road_18 : decode cX11_road 18 = .ok (.if_icmp .eq 24, 3) := by decide +kernel
theorem dX11_road_21 : decode cX11_road 21 = .ok (.iload_n 3, 1) := by decide +kernel
theorem dX11_road_22 : decode cX11_road 22 = .ok (.iconst 1, 1) := by decide +kernel
theorem dX11_road_23 : decode cX11_road 23 = .ok (.sipush 20000, 3) := by decide +kernel
theorem dX11_road_26 : decode cX11_road 26 = .ok (.invokestatic 61, 3) := by decide +kernel
theorem dX11_road_29 : decode cX11_road 29 = .ok (.ifCond .eq 13, 3) := by decide +kernel
theorem dX11_road_32 : decode cX11_road 32 = .ok (.iload 4, 2) := by decide +kernel
theorem dX11_road_34 : decode cX11_road 34 = .ok (.iconst 0, 1) := by decide +kernel
theorem dX11_road_35 : decode cX11_road 35 = .ok (.iconst 2, 1) := by decide +kernel
theorem dX11_road_36 : decode cX11_road 36 = .ok (.invokestatic 61, 3) := by decide +kernel
theorem dX11_road_39 : decode cX11_road 39 = .ok (.ifCond .ne 6, 3) := by decide +kernel
theorem dX11_road_42 : decode cX11_road 42 = .ok (.bipush (-2), 2) := by decide +kernel
theorem dX11_road_44 : decode cX11_road 44 = .ok (.ireturn, 1) := by decide +kernel
theorem dX11_road_45 : decode cX11_road 45 = .ok (.aload_n 0, 1) := by decide +kernel
theorem dX11_road_46 : decode cX11_road 46 = .ok (.getfield 65, 3) := by decide +kernel
theorem dX11_road_49 : decode cX11_road 49 = .ok (.bipush 16, 2) := by decide +kernel
theorem dX11_road_51 : decode cX11_road 51 = .ok (.if_icmp .lt 6, 3) := by decide +kernel
theorem dX11_road_54 : decode cX11_road 54 = .ok (.bipush (-4), 2) := by decide +kernel
theorem dX11_road_56 : decode cX11_road 56 = .ok (.ireturn, 1) := by decide +kernel
theorem dX11_road_57 : decode cX11_road 57 = .ok (.aload_n 0, 1) := by decide +kernel
theorem dX11_road_58 : decode cX11_road 58 = .ok (.getfield 13, 3) := by decide +kernel
theorem dX11_road_61 : decode cX11_road 61 = .ok (.aload_n 0, 1) := by decide +kernel
theorem dX11_road_62 : decode cX11_road 62 = .ok (.getfield 65, 3) := by decide +kernel
theorem dX11_road_65 : decode cX11_road 65 = .ok (.iload_n 1, 1) := by decide +kernel
theorem dX11_road_66 : decode cX11_road 66 = .ok (.iload_n 2, 1) := by decide +kernel
theorem dX11_road_67 : decode cX11_road 67 = .ok (.iload_n 3, 1) := by decide +kernel
theorem dX11_road_68 : decode cX11_road 68 = .ok (.iload 4, 2) := by decide +kernel
theorem dX11_road_70 : decode cX11_road 70 = .ok (.invokestatic 69, 3) := by decide +kernel
theorem dX11_road_73 : decode cX11_road 73 = .ok (.aastore, 1) := by decide +kernel
theorem dX11_road_74 : decode cX11_road 74 = .ok (.aload_n 0, 1) := by decide +kernel
theorem dX11_road_75 : decode cX11_road 75 = .ok (.dup, 1) := by decide +kernel
theorem dX11_road_76 : decode cX11_road 76 = .ok (.getfield 65, 3) := by decide +kernel
theorem dX11_road_79 : decode cX11_road 79 = .ok (.iconst 1, 1) := by decide +kernel
theorem dX11_road_80 : decode cX11_road 80 = .ok (.iadd, 1) := by decide +kernel
theorem dX11_road_81 : decode cX11_road 81 = .ok (.putfield 65, 3) := by decide +kernel
theorem dX11_road_84 : decode cX11_road 84 = .ok (.aload_n 0, 1) := by decide +kernel
theorem dX11_road_85 : decode cX11_road 85 = .ok (.getfield 65, 3) := by decide +kernel
theorem dX11_road_88 : decode cX11_road 88 = .ok (.iconst 1, 1) := by decide +kernel
theorem dX11_road_89 : decode cX11_road 89 = .ok (.isub, 1) := by decide +kernel
theorem dX11_road_90 : decode cX11_road 90 = .ok (.ireturn, 1) := by decide +kernel
theorem dX11_shut_0 : decode cX11_shut 0 = .ok (.aload_n 0, 1) := by decide +kernel
theorem dX11_shut_1 : decode cX11_shut 1 = .ok (.iload_n 1, 1) := by decide +kernel
theorem dX11_shut_2 : decode cX11_shut 2 = .ok (.invokevirtual 73, 3) := by decide +kernel
theorem dX11_shut_5 : decode cX11_shut 5 = .ok (.astore_n 3, 1) := by decide +kernel
theorem dX11_shut_6 : decode cX11_shut 6 = .ok (.aload_n 3, 1) := by decide +kernel
theorem dX11_shut_7 : decode cX11_shut 7 = .ok (.ifnonnull 5, 3) := by decide +kernel
theorem dX11_shut_10 : decode cX11_shut 10 = .ok (.iconst (-1), 1) := by decide +kernel
theorem dX11_shut_11 : decode cX11_shut 11 = .ok (.ireturn, 1) := by decide +kernel
theorem dX11_shut_12 : decode cX11_shut 12 = .ok (.aload_n 3, 1) := by decide +kernel
theorem dX11_shut_13 : decode cX11_shut 13 = .ok (.getfield 77, 3) := by decide +kernel
theorem dX11_shut_16 : decode cX11_shut 16 = .ok (.iload_n 2, 1) := by decide +kernel
theorem dX11_shut_17 : decode cX11_shut 17 = .ok (.if_icmp .ne 5, 3) := by decide +kernel
theorem dX11_shut_20 : decode cX11_shut 20 = .ok (.iconst 0, 1) := by decide +kernel
theorem dX11_shut_21 : decode cX11_shut 21 = .ok (.ireturn, 1) := by decide +kernel
theorem dX11_shut_22 : decode cX11_shut 22 = .ok (.aload_n 3, 1) := by decide +kernel
theorem dX11_shut_23 : decode cX11_shut 23 = .ok (.iload_n 2, 1) := by decide +kernel
theorem dX11_shut_24 : decode cX11_shut 24 = .ok (.putfield 77, 3) := by decide +kernel
theorem dX11_shut_27 : decode cX11_shut 27 = .ok (.iconst 1, 1) := by decide +kernel
theorem dX11_shut_28 : decode cX11_shut 28 = .ok (.ireturn, 1) := by decide +kernel
theorem dX11_wet_0 : decode cX11_wet 0 = .ok (.aload_n 0, 1) := by decide +kernel
theorem dX11_wet_1 : decode cX11_wet 1 = .ok (.iconst 0, 1) := by decide +kernel
theorem dX11_wet_2 : decode cX11_wet 2 = .ok (.putfield 81, 3) := by decide +kernel
theorem dX11_wet_5 : decode cX11_wet 5 = .ok (.aload_n 0, 1) := by decide +kernel
theorem dX11_wet_6 : decode cX11_wet 6 = .ok (.iload_n 1, 1) := by decide +kernel
theorem dX11_wet_7 : decode cX11_wet 7 = .ok (.invokevirtual 73, 3) := by decide +kernel
theorem dX11_wet_10 : decode cX11_wet 10 = .ok (.astore_n 3, 1) := by decide +kernel
theorem dX11_wet_11 : decode cX11_wet 11 = .ok (.aload_n 3, 1) := by decide +kernel
theorem dX11_wet_12 : decode cX11_wet 12 = .ok (.ifnonnull 5, 3) := by decide +kernel
theorem dX11_wet_15 : decode cX11_wet 15 = .ok (.iconst (-1), 1) := by decide +kernel
theorem dX11_wet_16 : decode cX11_wet 16 = .ok (.ireturn, 1) := by decide +kernel
theorem dX11_wet_17 : decode cX11_wet 17 = .ok (.aload_n 3, 1) := by decide +kernel
theorem dX11_wet_18 : decode cX11_wet 18 = .ok (.instanceof 84, 3) := by decide +kernel
theorem dX11_wet_21 : decode cX11_wet 21 = .ok (.ifCond .eq 34, 3) := by decide +kernel
theorem dX11_wet_24 : decode cX11_wet 24 = .ok (.aload_n 3, 1) := by decide +kernel
theorem dX11_wet_25 : decode cX11_wet 25 = .ok (.checkcast 84, 3) := by decide +kernel
theorem dX11_wet_28 : decode cX11_wet 28 = .ok (.astore 4, 2) := by decide +kernel
theorem dX11_wet_30 : decode cX11_wet 30 = .ok (.aload 4, 2) := by decide +kernel
theorem dX11_wet_32 : decode cX11_wet 32 = .ok (.getfield 86, 3) := by decide +kernel
theorem dX11_wet_35 : decode cX11_wet 35 = .ok (.iload_n 2, 1) := by decide +kernel
theorem dX11_wet_36 : decode cX11_wet 36 = .ok (.if_icmp .ne 7, 3) := by decide +kernel
theorem dX11_wet_39 : decode cX11_wet 39 = .ok (.iconst 0, 1) := by decide +kernel
theorem dX11_wet_40 : decode cX11_wet 40 = .ok (.goto 4, 3) := by decide +kernel
theorem dX11_wet_43 : decode cX11_wet 43 = .ok (.iconst 1, 1) := by decide +kernel
theorem dX11_wet_44 : decode cX11_wet 44 = .ok (.istore 5, 2) := by decide +kernel
theorem dX11_wet_46 : decode cX11_wet 46 = .ok (.aload 4, 2) := by decide +kernel
theorem dX11_wet_48 : decode cX11_wet 48 = .ok (.iload_n 2, 1) := by decide +kernel
theorem dX11_wet_49 : decode cX11_wet 49 = .ok (.putfield 86, 3) := by decide +kernel
theorem dX11_wet_52 : decode cX11_wet 52 = .ok (.iload 5, 2) := by decide +kernel
theorem dX11_wet_54 : decode cX11_wet 54 = .ok (.ireturn, 1) := by decide +kernel
theorem dX11_wet_55 : decode cX11_wet 55 = .ok (.aload_n 0, 1) := by decide +kernel
theorem dX11_wet_56 : decode cX11_wet 56 = .ok (.iconst 2, 1) := by decide +kernel
theorem dX11_wet_57 : decode cX11_wet 57 = .ok (.invokevirtual 89, 3) := by decide +kernel
theorem dX11_wet_60 : decode cX11_wet 60 = .ok (.ireturn, 1) := by decide +kernel
theorem dX11_about_0 : decode cX11_about 0 = .ok (.aload_n 0, 1) := by decide +kernel
theorem dX11_about_1 : decode cX11_about 1 = .ok (.iload_n 1, 1) := by decide +kernel
theorem dX11_about_2 : decode cX11_about 2 = .ok (.invokevirtual 73, 3) := by decide +kernel
theorem dX11_about_5 : decode cX11_about 5 = .ok (.astore_n 3, 1) := by decide +kernel
theorem dX11_about_6 : decode cX11_about 6 = .ok (.aload_n 3, 1) := by decide +kernel
theorem dX11_about_7 : decode cX11_about 7 = .ok (.ifnonnull 5, 3) := by decide +kernel
theorem dX11_about_10 : decode cX11_about 10 = .ok (.iconst (-1), 1) := by decide +kernel
theorem dX11_about_11 : decode cX11_about 11 = .ok (.ireturn, 1) := by decide +kernel
theorem dX11_about_12 : decode cX11_about 12 = .ok (.iload_n 2, 1) := by decide +kernel
theorem dX11_about_13 : decode cX11_about 13 = .ok (.tableswitch 81 0 5 #[39, 44, 49, 54, 59, 72], 39) := by decide +kernel
theorem dX11_about_52 : decode cX11_about 52 = .ok (.aload_n 3, 1) := by decide +kernel
theorem dX11_about_53 : decode cX11_about 53 = .ok (.getfield 93, 3) := by decide +kernel
theorem dX11_about_56 : decode cX11_about 56 = .ok (.ireturn, 1) := by decide +kernel
theorem dX11_about_57 : decode cX11_about 57 = .ok (.aload_n 3, 1) := by decide +kernel
theorem dX11_about_58 : decode cX11_about 58 = .ok (.getfield 96, 3) := by decide +kernel
theorem dX11_about_61 : decode cX11_about 61 = .ok (.ireturn, 1) := by decide +kernel
theorem dX11_about_62 : decode cX11_about 62 = .ok (.aload_n 3, 1) := by decide +kernel
theorem dX11_about_63 : decode cX11_about 63 = .ok (.getfield 99, 3) := by decide +kernel
theorem dX11_about_66 : decode cX11_about 66 = .ok (.ireturn, 1) := by decide +kernel
theorem dX11_about_67 : decode cX11_about 67 = .ok (.aload_n 3, 1) := by decide +kernel
theorem dX11_about_68 : decode cX11_about 68 = .ok (.getfield 102, 3) := by decide +kernel
theorem dX11_about_71 : decode cX11_about 71 = .ok (.ireturn, 1) := by decide +kernel
theorem dX11_about_72 : decode cX11_about 72 = .ok (.aload_n 3, 1) := by decide +kernel
theorem dX11_about_73 : decode cX11_about 73 = .ok (.invokevirtual 105, 3) := by decide +kernel
theorem dX11_about_76 : decode cX11_about 76 = .ok (.ifCond .eq 7, 3) := by decide +kernel
theorem dX11_about_79 : decode cX11_about 79 = .ok (.iconst 0, 1) := by decide +kernel
theorem dX11_about_80 : decode cX11_about 80 = .ok (.goto 4, 3) := by decide +kernel
theorem dX11_about_83 : decode cX11_about 83 = .ok (.iconst 1, 1) := by decide +kernel
theorem dX11_about_84 : decode cX11_about 84 = .ok (.ireturn, 1) := by decide +kernel
theorem dX11_about_85 : decode cX11_about 85 = .ok (.aload_n 0, 1) := by decide +kernel
theorem dX11_about_86 : decode cX11_about 86 = .ok (.getfield 34, 3) := by decide +kernel
theorem dX11_about_89 : decode cX11_about 89 = .ok (.iload_n 1, 1) := by decide +kernel
theorem dX11_about_90 : decode cX11_about 90 = .ok (.invokevirtual 109, 3) := by decide +kernel
theorem dX11_about_93 : decode cX11_about 93 = .ok (.ireturn, 1) := by decide +kernel
theorem dX11_about_94 : decode cX11_about 94 = .ok (.bipush (-2), 2) := by decide +kernel
theorem dX11_about_96 : decode cX11_about 96 = .ok (.ireturn, 1) := by decide +kernel
theorem dX11_book_0 : decode cX11_book 0 = .ok (.aload_n 0, 1) := by decide +kernel
theorem dX11_book_1 : decode cX11_book 1 = .ok (.iconst 0, 1) := by decide +kernel
theorem dX11_book_2 : decode cX11_book 2 = .ok (.putfield 81, 3) := by decide +kernel
theorem dX11_book_5 : decode cX11_book 5 = .ok (.aload_n 0, 1) := by decide +kernel
theorem dX11_book_6 : decode cX11_book 6 = .ok (.iload_n 1, 1) := by decide +kernel
theorem dX11_book_7 : decode cX11_book 7 = .ok (.invokevirtual 112, 3) := by decide +kernel
theorem dX11_book_10 : decode cX11_book 10 = .ok (.astore 5, 2) := by decide +kernel
theorem dX11_book_12 : decode cX11_book 12 = .ok (.aload 5, 2) := by decide +kernel
theorem dX11_book_14 : decode cX11_book 14 = .ok (.ifnonnull 5, 3) := by decide +kernel
theorem dX11_book_17 : decode cX11_book 17 = .ok (.iconst (-1), 1) := by decide +kernel
theorem dX11_book_18 : decode cX11_book 18 = .ok (.ireturn, 1) := by decide +kernel
theorem dX11_book_19 : decode cX11_book 19 = .ok (.iload_n 2, 1) := by decide +kernel
theorem dX11_book_20 : decode cX11_book 20 = .ok (.invokestatic 116, 3) := by decide +kernel
theorem dX11_book_23 : decode cX11_book 23 = .ok (.ifCond .ne 6, 3) := by decide +kernel
theorem dX11_book_26 : decode cX11_book 26 = .ok (.bipush (-2), 2) := by decide +kernel
theorem dX11_book_28 : decode cX11_book 28 = .ok (.ireturn, 1) := by decide +kernel
theorem dX11_book_29 : decode cX11_book 29 = .ok (.aload 5, 2) := by decide +kernel
theorem dX11_book_31 : decode cX11_book 31 = .ok (.iload_n 2, 1) := by decide +kernel
theorem dX11_book_32 : decode cX11_book 32 = .ok (.iload_n 3, 1) := by decide +kernel
theorem dX11_book_33 : decode cX11_book 33 = .ok (.iload 4, 2) := by decide +kernel
theorem dX11_book_35 : decode cX11_book 35 = .ok (.invokevirtual 119, 3) := by decide +kernel
theorem dX11_book_38 : decode cX11_book 38 = .ok (.istore 6, 2) := by decide +kernel
theorem dX11_book_40 : decode cX11_book 40 = .ok (.iload 6, 2) := by decide +kernel
theorem dX11_book_42 : decode cX11_book 42 = .ok (.ifCond .eq 10, 3) := by decide +kernel
theorem dX11_book_45 : decode cX11_book 45 = .ok (.aload_n 0, 1) := by decide +kernel
theorem dX11_book_46 : decode cX11_book 46 = .ok (.iload 6, 2) := by decide +kernel
theorem dX11_book_48 : decode cX11_book 48 = .ok (.invokevirtual 89, 3) := by decide +kernel
theorem dX11_book_51 : decode cX11_book 51 = .ok (.ireturn, 1) := by decide +kernel
theorem dX11_book_52 : decode cX11_book 52 = .ok (.iload 4, 2) := by decide +kernel
theorem dX11_book_54 : decode cX11_book 54 = .ok (.iconst 2, 1) := by decide +kernel
theorem dX11_book_55 : decode cX11_book 55 = .ok (.bipush 8, 2) := by decide +kernel
theorem dX11_book_57 : decode cX11_book 57 = .ok (.invokestatic 61, 3) := by decide +kernel
theorem dX11_book_60 : decode cX11_book 60 = .ok (.ifCond .eq 17, 3) := by decide +kernel
theorem dX11_book_63 : decode cX11_book 63 = .ok (.aload 5, 2) := by decide +kernel
theorem dX11_book_65 : decode cX11_book 65 = .ok (.getfield 123, 3) := by decide +kernel
theorem dX11_book_68 : decode cX11_book 68 = .ok (.iload_n 3, 1) := by decide +kernel
theorem dX11_book_69 : decode cX11_book 69 = .ok (.iload 4, 2) := by decide +kernel
theorem dX11_book_71 : decode cX11_book 71 = .ok (.invokestatic 127, 3) := by decide +kernel
theorem dX11_book_74 : decode cX11_book 74 = .ok (.ifCond .ne 6, 3) := by decide +kernel
theorem dX11_book_77 : decode cX11_book 77 = .ok (.bipush (-2), 2) := by decide +kernel
theorem dX11_book_79 : decode cX11_book 79 = .ok (.ireturn, 1) := by decide +kernel
theorem dX11_book_80 : decode cX11_book 80 = .ok (.aload_n 0, 1) := by decide +kernel
theorem dX11_book_81 : decode cX11_book 81 = .ok (.getfield 20, 3) := by decide +kernel
theorem dX11_book_84 : decode cX11_book 84 = .ok (.aload 5, 2) := by decide +kernel
theorem dX11_book_86 : decode cX11_book 86 = .ok (.getfield 123, 3) := by decide +kernel
theorem dX11_book_89 : decode cX11_book 89 = .ok (.iload_n 3, 1) := by decide +kernel
theorem dX11_book_90 : decode cX11_book 90 = .ok (.iload 4, 2) := by decide +kernel
theorem dX11_book_92 : decode cX11_book 92 = .ok (.invokevirtual 131, 3) := by decide +kernel
theorem dX11_book_95 : decode cX11_book 95 = .ok (.iload 4, 2) := by decide +kernel
theorem dX11_book_97 : decode cX11_book 97 = .ok (.ireturn, 1) := by decide +kernel
theorem dX11_ways_0 : decode cX11_ways 0 = .ok (.aload_n 0, 1) := by decide +kernel
theorem dX11_ways_1 : decode cX11_ways 1 = .ok (.getfield 20, 3) := by decide +kernel
theorem dX11_ways_4 : decode cX11_ways 4 = .ok (.getfield 135, 3) := by decide +kernel
theorem dX11_ways_7 : decode cX11_ways 7 = .ok (.ifCond .ne 6, 3) := by decide +kernel
theorem dX11_ways_10 : decode cX11_ways 10 = .ok (.bipush (-3), 2) := by decide +kernel
theorem dX11_ways_12 : decode cX11_ways 12 = .ok (.ireturn, 1) := by decide +kernel
theorem dX11_ways_13 : decode cX11_ways 13 = .ok (.aload_n 0, 1) := by decide +kernel
theorem dX11_ways_14 : decode cX11_ways 14 = .ok (.invokevirtual 138, 3) := by decide +kernel
theorem dX11_ways_17 : decode cX11_ways 17 = .ok (.aload_n 0, 1) := by decide +kernel
theorem dX11_ways_18 : decode cX11_ways 18 = .ok (.getfield 27, 3) := by decide +kernel
theorem dX11_ways_21 : decode cX11_ways 21 = .ok (.getfield 141, 3) := by decide +kernel
theorem dX11_ways_24 : decode cX11_ways 24 = .ok (.ifCond .eq 8, 3) := by decide +kernel
theorem dX11_ways_27 : decode cX11_ways 27 = .ok (.bipush (-6), 2) := by decide +kernel
theorem dX11_ways_29 : decode cX11_ways 29 = .ok (.goto 10, 3) := by decide +kernel
theorem dX11_ways_32 : decode cX11_ways 32 = .ok (.aload_n 0, 1) := by decide +kernel
theorem dX11_ways_33 : decode cX11_ways 33 = .ok (.getfield 27, 3) := by decide +kernel
theorem dX11_ways_36 : decode cX11_ways 36 = .ok (.getfield 144, 3) := by decide +kernel
theorem dX11_ways_39 : decode cX11_ways 39 = .ok (.ireturn, 1) := by decide +kernel
theorem dX11_lay_0 : decode cX11_lay 0 = .ok (.aload_n 0, 1) := by decide +kernel
theorem dX11_lay_1 : decode cX11_lay 1 = .ok (.getfield 20, 3) := by decide +kernel
theorem dX11_lay_4 : decode cX11_lay 4 = .ok (.getfield 135, 3) := by decide +kernel
theorem dX11_lay_7 : decode cX11_lay 7 = .ok (.ifCond .ne 6, 3) := by decide +kernel
theorem dX11_lay_10 : decode cX11_lay 10 = .ok (.bipush (-3), 2) := by decide +kernel
theorem dX11_lay_12 : decode cX11_lay 12 = .ok (.ireturn, 1) := by decide +kernel
theorem dX11_lay_13 : decode cX11_lay 13 = .ok (.aload_n 0, 1) := by decide +kernel
theorem dX11_lay_14 : decode cX11_lay 14 = .ok (.invokevirtual 138, 3) := by decide +kernel
theorem dX11_lay_17 : decode cX11_lay 17 = .ok (.aload_n 0, 1) := by decide +kernel
theorem dX11_lay_18 : decode cX11_lay 18 = .ok (.getfield 27, 3) := by decide +kernel
theorem dX11_lay_21 : decode cX11_lay 21 = .ok (.getfield 141, 3) := by decide +kernel
theorem dX11_lay_24 : decode cX11_lay 24 = .ok (.ifCond .eq 6, 3) := by decide +kernel
theorem dX11_lay_27 : decode cX11_lay 27 = .ok (.bipush (-6), 2) := by decide +kernel
theorem dX11_lay_29 : decode cX11_lay 29 = .ok (.ireturn, 1) := by decide +kernel
theorem dX11_lay_30 : decode cX11_lay 30 = .ok (.aload_n 0, 1) := by decide +kernel
theorem dX11_lay_31 : decode cX11_lay 31 = .ok (.getfield 27, 3) := by decide +kernel
theorem dX11_lay_34 : decode cX11_lay 34 = .ok (.getfield 144, 3) := by decide +kernel
theorem dX11_lay_37 : decode cX11_lay 37 = .ok (.ifCond .ne 6, 3) := by decide +kernel
theorem dX11_lay_40 : decode cX11_lay 40 = .ok (.bipush (-9), 2) := by decide +kernel
theorem dX11_lay_42 : decode cX11_lay 42 = .ok (.ireturn, 1) := by decide +kernel
theorem dX11_lay_43 : decode cX11_lay 43 = .ok (.aload_n 0, 1) := by decide +kernel
theorem dX11_lay_44 : decode cX11_lay 44 = .ok (.invokevirtual 147, 3) := by decide +kernel
theorem dX11_lay_47 : decode cX11_lay 47 = .ok (.aload_n 0, 1) := by decide +kernel
theorem dX11_lay_48 : decode cX11_lay 48 = .ok (.getfield 34, 3) := by decide +kernel
theorem dX11_lay_51 : decode cX11_lay 51 = .ok (.getfield 150, 3) := by decide +kernel
theorem dX11_lay_54 : decode cX11_lay 54 = .ok (.ireturn, 1) := by decide +kernel
theorem dX11_laid_0 : decode cX11_laid 0 = .ok (.iload_n 1, 1) := by decide +kernel
theorem dX11_laid_1 : decode cX11_laid 1 = .ok (.iconst 0, 1) := by decide +kernel
theorem dX11_laid_2 : decode cX11_laid 2 = .ok (.aload_n 0, 1) := by decide +kernel
theorem dX11_laid_3 : decode cX11_laid 3 = .ok (.getfield 34, 3) := by decide +kernel
theorem dX11_laid_6 : decode cX11_laid 6 = .ok (.getfield 150, 3) := by decide +kernel
theorem dX11_laid_9 : decode cX11_laid 9 = .ok (.iconst 1, 1) := by decide +kernel
theorem dX11_laid_10 : decode cX11_laid 10 = .ok (.isub, 1) := by decide +kernel
theorem dX11_laid_11 : decode cX11_laid 11 = .ok (.invokestatic 61, 3) := by decide +kernel
theorem dX11_laid_14 : decode cX11_laid 14 = .ok (.ifCond .eq 15, 3) := by decide +kernel
theorem dX11_laid_17 : decode cX11_laid 17 = .ok (.aload_n 0, 1) := by decide +kernel
theorem dX11_laid_18 : decode cX11_laid 18 = .ok (.getfield 34, 3) := by decide +kernel
theorem dX11_laid_21 : decode cX11_laid 21 = .ok (.getfield 151, 3) := by decide +kernel
theorem dX11_laid_24 : decode cX11_laid 24 = .ok (.iload_n 1, 1) := by decide +kernel
theorem dX11_laid_25 : decode cX11_laid 25 = .ok (.iaload, 1) := by decide +kernel
theorem dX11_laid_26 : decode cX11_laid 26 = .ok (.goto 4, 3) := by decide +kernel
theorem dX11_laid_29 : decode cX11_laid 29 = .ok (.iconst (-1), 1) := by decide +kernel
theorem dX11_laid_30 : decode cX11_laid 30 = .ok (.ireturn, 1) := by decide +kernel
theorem dX11_proof_0 : decode cX11_proof 0 = .ok (.aload_n 0, 1) := by decide +kernel
theorem dX11_proof_1 : decode cX11_proof 1 = .ok (.iconst 0, 1) := by decide +kernel
theorem dX11_proof_2 : decode cX11_proof 2 = .ok (.putfield 81, 3) := by decide +kernel
theorem dX11_proof_5 : decode cX11_proof 5 = .ok (.aload_n 0, 1) := by decide +kernel
theorem dX11_proof_6 : decode cX11_proof 6 = .ok (.iload_n 1, 1) := by decide +kernel
theorem dX11_proof_7 : decode cX11_proof 7 = .ok (.invokevirtual 112, 3) := by decide +kernel
theorem dX11_proof_10 : decode cX11_proof 10 = .ok (.astore 5, 2) := by decide +kernel
theorem dX11_proof_12 : decode cX11_proof 12 = .ok (.aload 5, 2) := by decide +kernel
theorem dX11_proof_14 : decode cX11_proof 14 = .ok (.ifnull 20, 3) := by decide +kernel
theorem dX11_proof_17 : decode cX11_proof 17 = .ok (.iload_n 2, 1) := by decide +kernel
theorem dX11_proof_18 : decode cX11_proof 18 = .ok (.invokestatic 116, 3) := by decide +kernel
theorem dX11_proof_21 : decode cX11_proof 21 = .ok (.ifCond .eq 13, 3) := by decide +kernel
theorem dX11_proof_24 : decode cX11_proof 24 = .ok (.aload_n 0, 1) := by decide +kernel
theorem dX11_proof_25 : decode cX11_proof 25 = .ok (.getfield 20, 3) := by decide +kernel
theorem dX11_proof_28 : decode cX11_proof 28 = .ok (.getfield 135, 3) := by decide +kernel
theorem dX11_proof_31 : decode cX11_proof 31 = .ok (.ifCond .ne 7, 3) := by decide +kernel
theorem dX11_proof_34 : decode cX11_proof 34 = .ok (.ldc2_w 154, 3) := by decide +kernel
theorem dX11_proof_37 : decode cX11_proof 37 = .ok (.lreturn, 1) := by decide +kernel
theorem dX11_proof_38 : decode cX11_proof 38 = .ok (.aload 5, 2) := by decide +kernel
theorem dX11_proof_40 : decode cX11_proof 40 = .ok (.iload_n 2, 1) := by decide +kernel
theorem dX11_proof_41 : decode cX11_proof 41 = .ok (.iload_n 3, 1) := by decide +kernel
theorem dX11_proof_42 : decode cX11_proof 42 = .ok (.iload 4, 2) := by decide +kernel
theorem dX11_proof_44 : decode cX11_proof 44 = .ok (.invokevirtual 119, 3) := by decide +kernel
theorem dX11_proof_47 : decode cX11_proof 47 = .ok (.istore 6, 2) := by decide +kernel
theorem dX11_proof_49 : decode cX11_proof 49 = .ok (.iload 6, 2) := by decide +kernel
theorem dX11_proof_51 : decode cX11_proof 51 = .ok (.ifCond .eq 10, 3) := by decide +kernel
theorem dX11_proof_54 : decode cX11_proof 54 = .ok (.aload_n 0, 1) := by decide +kernel
theorem dX11_proof_55 : decode cX11_proof 55 = .ok (.iload 6, 2) := by decide +kernel
theorem dX11_proof_57 : decode cX11_proof 57 = .ok (.invokevirtual 156, 3) := by decide +kernel
theorem dX11_proof_60 : decode cX11_proof 60 = .ok (.lreturn, 1) := by decide +kernel
theorem dX11_proof_61 : decode cX11_proof 61 = .ok (.aload_n 0, 1) := by decide +kernel
theorem dX11_proof_62 : decode cX11_proof 62 = .ok (.aload 5, 2) := by decide +kernel
theorem dX11_proof_64 : decode cX11_proof 64 = .ok (.getfield 123, 3) := by decide +kernel
theorem dX11_proof_67 : decode cX11_proof 67 = .ok (.iload_n 3, 1) := by decide +kernel
theorem dX11_proof_68 : decode cX11_proof 68 = .ok (.iload 4, 2) := by decide +kernel
theorem dX11_proof_70 : decode cX11_proof 70 = .ok (.invokevirtual 160, 3) := by decide +kernel
theorem dX11_proof_73 : decode cX11_proof 73 = .ok (.lreturn, 1) := by decide +kernel
theorem dX11_speed_0 : decode cX11_speed 0 = .ok (.iload_n 2, 1) := by decide +kernel
theorem dX11_speed_1 : decode cX11_speed 1 = .ok (.iconst 1, 1) := by decide +kernel
theorem dX11_speed_2 : decode cX11_speed 2 = .ok (.sipush 3000, 3) := by decide +kernel
theorem dX11_speed_5 : decode cX11_speed 5 = .ok (.invokestatic 61, 3) := by decide +kernel
theorem dX11_speed_8 : decode cX11_speed 8 = .ok (.ifCond .ne 6, 3) := by decide +kernel
theorem dX11_speed_11 : decode cX11_speed 11 = .ok (.bipush (-2), 2) := by decide +kernel
theorem dX11_speed_13 : decode cX11_speed 13 = .ok (.ireturn, 1) := by decide +kernel
theorem dX11_speed_14 : decode cX11_speed 14 = .ok (.aload_n 0, 1) := by decide +kernel
theorem dX11_speed_15 : decode cX11_speed 15 = .ok (.getfield 34, 3) := by decide +kernel
theorem dX11_speed_18 : decode cX11_speed 18 = .ok (.getfield 150, 3) := by decide +kernel
theorem dX11_speed_21 : decode cX11_speed 21 = .ok (.ifCond .ne 6, 3) := by decide +kernel
theorem dX11_speed_24 : decode cX11_speed 24 = .ok (.bipush (-3), 2) := by decide +kernel
theorem dX11_speed_26 : decode cX11_speed 26 = .ok (.ireturn, 1) := by decide +kernel
theorem dX11_speed_27 : decode cX11_speed 27 = .ok (.iload_n 1, 1) := by decide +kernel
theorem dX11_speed_28 : decode cX11_speed 28 = .ok (.iconst 0, 1) := by decide +kernel
theorem dX11_speed_29 : decode cX11_speed 29 = .ok (.aload_n 0, 1) := by decide +kernel
theorem dX11_speed_30 : decode cX11_speed 30 = .ok (.getfield 34, 3) := by decide +kernel
theorem dX11_speed_33 : decode cX11_speed 33 = .ok (.getfield 164, 3) := by decide +kernel
theorem dX11_speed_36 : decode cX11_speed 36 = .ok (.invokestatic 61, 3) := by decide +kernel
theorem dX11_speed_39 : decode cX11_speed 39 = .ok (.ifCond .ne 6, 3) := by decide +kernel
theorem dX11_speed_42 : decode cX11_speed 42 = .ok (.bipush (-2), 2) := by decide +kernel
theorem dX11_speed_44 : decode cX11_speed 44 = .ok (.ireturn, 1) := by decide +kernel
theorem dX11_speed_45 : decode cX11_speed 45 = .ok (.aload_n 0, 1) := by decide +kernel
theorem dX11_speed_46 : decode cX11_speed 46 = .ok (.getfield 34, 3) := by decide +kernel
theorem dX11_speed_49 : decode cX11_speed 49 = .ok (.getfield 167, 3) := by decide +kernel
theorem dX11_speed_52 : decode cX11_speed 52 = .ok (.bipush 8, 2) := by decide +kernel
theorem dX11_speed_54 : decode cX11_speed 54 = .ok (.if_icmp .lt 6, 3) := by decide +kernel
theorem dX11_speed_57 : decode cX11_speed 57 = .ok (.bipush (-4), 2) := by decide +kernel
theorem dX11_speed_59 : decode cX11_speed 59 = .ok (.ireturn, 1) := by decide +kernel
theorem dX11_speed_60 : decode cX11_speed 60 = .ok (.aload_n 0, 1) := by decide +kernel
theorem dX11_speed_61 : decode cX11_speed 61 = .ok (.getfield 34, 3) := by decide +kernel
theorem dX11_speed_64 : decode cX11_speed 64 = .ok (.iload_n 1, 1) := by decide +kernel
theorem dX11_speed_65 : decode cX11_speed 65 = .ok (.iload_n 2, 1) := by decide +kernel
theorem dX11_speed_66 : decode cX11_speed 66 = .ok (.invokevirtual 170, 3) := by decide +kernel
theorem dX11_speed_69 : decode cX11_speed 69 = .ok (.aload_n 0, 1) := by decide +kernel
theorem dX11_speed_70 : decode cX11_speed 70 = .ok (.getfield 34, 3) := by decide +kernel
theorem dX11_speed_73 : decode cX11_speed 73 = .ok (.getfield 167, 3) := by decide +kernel
theorem dX11_speed_76 : decode cX11_speed 76 = .ok (.ireturn, 1) := by decide +kernel
theorem dX11_due_0 : decode cX11_due 0 = .ok (.aload_n 0, 1) := by decide +kernel
theorem dX11_due_1 : decode cX11_due 1 = .ok (.getfield 34, 3) := by decide +kernel
theorem dX11_due_4 : decode cX11_due 4 = .ok (.invokevirtual 174, 3) := by decide +kernel
theorem dX11_due_7 : decode cX11_due 7 = .ok (.ifCond .eq 18, 3) := by decide +kernel
theorem dX11_due_10 : decode cX11_due 10 = .ok (.iload_n 1, 1) := by decide +kernel
theorem dX11_due_11 : decode cX11_due 11 = .ok (.iconst 0, 1) := by decide +kernel
theorem dX11_due_12 : decode cX11_due 12 = .ok (.aload_n 0, 1) := by decide +kernel
theorem dX11_due_13 : decode cX11_due 13 = .ok (.getfield 34, 3) := by decide +kernel
theorem dX11_due_16 : decode cX11_due 16 = .ok (.getfield 164, 3) := by decide +kernel
theorem dX11_due_19 : decode cX11_due 19 = .ok (.invokestatic 61, 3) := by decide +kernel
theorem dX11_due_22 : decode cX11_due 22 = .ok (.ifCond .ne 7, 3) := by decide +kernel
theorem dX11_due_25 : decode cX11_due 25 = .ok (.ldc2_w 154, 3) := by decide +kernel
theorem dX11_due_28 : decode cX11_due 28 = .ok (.lreturn, 1) := by decide +kernel
theorem dX11_due_29 : decode cX11_due 29 = .ok (.aload_n 0, 1) := by decide +kernel
theorem dX11_due_30 : decode cX11_due 30 = .ok (.getfield 34, 3) := by decide +kernel
theorem dX11_due_33 : decode cX11_due 33 = .ok (.iload_n 1, 1) := by decide +kernel
theorem dX11_due_34 : decode cX11_due 34 = .ok (.invokevirtual 177, 3) := by decide +kernel
theorem dX11_due_37 : decode cX11_due 37 = .ok (.lreturn, 1) := by decide +kernel
theorem dX11_roadAt_0 : decode cX11_roadAt 0 = .ok (.aload_n 0, 1) := by decide +kernel
theorem dX11_roadAt_1 : decode cX11_roadAt 1 = .ok (.getfield 34, 3) := by decide +kernel
theorem dX11_roadAt_4 : decode cX11_roadAt 4 = .ok (.getfield 150, 3) := by decide +kernel
theorem dX11_roadAt_7 : decode cX11_roadAt 7 = .ok (.ifCond .ne 6, 3) := by decide +kernel
theorem dX11_roadAt_10 : decode cX11_roadAt 10 = .ok (.bipush (-3), 2) := by decide +kernel
theorem dX11_roadAt_12 : decode cX11_roadAt 12 = .ok (.ireturn, 1) := by decide +kernel
theorem dX11_roadAt_13 : decode cX11_roadAt 13 = .ok (.iload_n 1, 1) := by decide +kernel
theorem dX11_roadAt_14 : decode cX11_roadAt 14 = .ok (.iconst 0, 1) := by decide +kernel
theorem dX11_roadAt_15 : decode cX11_roadAt 15 = .ok (.aload_n 0, 1) := by decide +kernel
theorem dX11_roadAt_16 : decode cX11_roadAt 16 = .ok (.getfield 34, 3) := by decide +kernel
theorem dX11_roadAt_19 : decode cX11_roadAt 19 = .ok (.getfield 164, 3) := by decide +kernel
theorem dX11_roadAt_22 : decode cX11_roadAt 22 = .ok (.invokestatic 61, 3) := by decide +kernel
theorem dX11_roadAt_25 : decode cX11_roadAt 25 = .ok (.ifCond .ne 6, 3) := by decide +kernel
theorem dX11_roadAt_28 : decode cX11_roadAt 28 = .ok (.bipush (-2), 2) := by decide +kernel
theorem dX11_roadAt_30 : decode cX11_roadAt 30 = .ok (.ireturn, 1) := by decide +kernel
theorem dX11_roadAt_31 : decode cX11_roadAt 31 = .ok (.aload_n 0, 1) := by decide +kernel
theorem dX11_roadAt_32 : decode cX11_roadAt 32 = .ok (.getfield 34, 3) := by decide +kernel
theorem dX11_roadAt_35 : decode cX11_roadAt 35 = .ok (.iload_n 1, 1) := by decide +kernel
theorem dX11_roadAt_36 : decode cX11_roadAt 36 = .ok (.invokevirtual 180, 3) := by decide +kernel
theorem dX11_roadAt_39 : decode cX11_roadAt 39 = .ok (.ireturn, 1) := by decide +kernel
theorem dX11_control_0 : decode cX11_control 0 = .ok (.aload_n 0, 1) := by decide +kernel
theorem dX11_control_1 : decode cX11_control 1 = .ok (.getfield 34, 3) := by decide +kernel
theorem dX11_control_4 : decode cX11_control 4 = .ok (.getfield 150, 3) := by decide +kernel
theorem dX11_control_7 : decode cX11_control 7 = .ok (.ifCond .ne 6, 3) := by decide +kernel
theorem dX11_control_10 : decode cX11_control 10 = .ok (.bipush (-3), 2) := by decide +kernel
theorem dX11_control_12 : decode cX11_control 12 = .ok (.ireturn, 1) := by decide +kernel
theorem dX11_control_13 : decode cX11_control 13 = .ok (.iload_n 1, 1) := by decide +kernel
theorem dX11_control_14 : decode cX11_control 14 = .ok (.iconst 1, 1) := by decide +kernel
theorem dX11_control_15 : decode cX11_control 15 = .ok (.aload_n 0, 1) := by decide +kernel
theorem dX11_control_16 : decode cX11_control 16 = .ok (.getfield 34, 3) := by decide +kernel
theorem dX11_control_19 : decode cX11_control 19 = .ok (.getfield 164, 3) := by decide +kernel
theorem dX11_control_22 : decode cX11_control 22 = .ok (.invokestatic 61, 3) := by decide +kernel
theorem dX11_control_25 : decode cX11_control 25 = .ok (.ifCond .ne 6, 3) := by decide +kernel
theorem dX11_control_28 : decode cX11_control 28 = .ok (.bipush (-2), 2) := by decide +kernel
theorem dX11_control_30 : decode cX11_control 30 = .ok (.ireturn, 1) := by decide +kernel
theorem dX11_control_31 : decode cX11_control 31 = .ok (.aload_n 0, 1) := by decide +kernel
theorem dX11_control_32 : decode cX11_control 32 = .ok (.iload_n 1, 1) := by decide +kernel
theorem dX11_control_33 : decode cX11_control 33 = .ok (.invokevirtual 183, 3) := by decide +kernel
theorem dX11_control_36 : decode cX11_control 36 = .ok (.ifCond .eq 6, 3) := by decide +kernel
theorem dX11_control_39 : decode cX11_control 39 = .ok (.bipush (-3), 2) := by decide +kernel
theorem dX11_control_41 : decode cX11_control 41 = .ok (.ireturn, 1) := by decide +kernel
theorem dX11_control_42 : decode cX11_control 42 = .ok (.aload_n 0, 1) := by decide +kernel
theorem dX11_control_43 : decode cX11_control 43 = .ok (.getfield 186, 3) := by decide +kernel
theorem dX11_control_46 : decode cX11_control 46 = .ok (.bipush 8, 2) := by decide +kernel
theorem dX11_control_48 : decode cX11_control 48 = .ok (.if_icmp .lt 6, 3) := by decide +kernel
theorem dX11_control_51 : decode cX11_control 51 = .ok (.bipush (-4), 2) := by decide +kernel
theorem dX11_control_53 : decode cX11_control 53 = .ok (.ireturn, 1) := by decide +kernel
theorem dX11_control_54 : decode cX11_control 54 = .ok (.aload_n 0, 1) := by decide +kernel
theorem dX11_control_55 : decode cX11_control 55 = .ok (.getfield 40, 3) := by decide +kernel
theorem dX11_control_58 : decode cX11_control 58 = .ok (.aload_n 0, 1) := by decide +kernel
theorem dX11_control_59 : decode cX11_control 59 = .ok (.getfield 186, 3) := by decide +kernel
theorem dX11_control_62 : decode cX11_control 62 = .ok (.new 38, 3) := by decide +kernel
theorem dX11_control_65 : decode cX11_control 65 = .ok (.dup, 1) := by decide +kernel
theorem dX11_control_66 : decode cX11_control 66 = .ok (.iload_n 1, 1) := by decide +kernel
theorem dX11_control_67 : decode cX11_control 67 = .ok (.invokespecial 189, 3) := by decide +kernel
theorem dX11_control_70 : decode cX11_control 70 = .ok (.aastore, 1) := by decide +kernel
theorem dX11_control_71 : decode cX11_control 71 = .ok (.aload_n 0, 1) := by decide +kernel
theorem dX11_control_72 : decode cX11_control 72 = .ok (.dup, 1) := by decide +kernel
theorem dX11_control_73 : decode cX11_control 73 = .ok (.getfield 186, 3) := by decide +kernel
theorem dX11_control_76 : decode cX11_control 76 = .ok (.iconst 1, 1) := by decide +kernel
theorem dX11_control_77 : decode cX11_control 77 = .ok (.iadd, 1) := by decide +kernel
theorem dX11_control_78 : decode cX11_control 78 = .ok (.putfield 186, 3) := by decide +kernel
theorem dX11_control_81 : decode cX11_control 81 = .ok (.aload_n 0, 1) := by decide +kernel
theorem dX11_control_82 : decode cX11_control 82 = .ok (.getfield 186, 3) := by decide +kernel
theorem dX11_control_85 : decode cX11_control 85 = .ok (.iconst 1, 1) := by decide +kernel
theorem dX11_control_86 : decode cX11_control 86 = .ok (.isub, 1) := by decide +kernel
theorem dX11_control_87 : decode cX11_control 87 = .ok (.ireturn, 1) := by decide +kernel
theorem dX11_watch_0 : decode cX11_watch 0 = .ok (.aload_n 0, 1) := by decide +kernel
theorem dX11_watch_1 : decode cX11_watch 1 = .ok (.iload_n 1, 1) := by decide +kernel
theorem dX11_watch_2 : decode cX11_watch 2 = .ok (.invokevirtual 192, 3) := by decide +kernel
theorem dX11_watch_5 : decode cX11_watch 5 = .ok (.astore 6, 2) := by decide +kernel
theorem dX11_watch_7 : decode cX11_watch 7 = .ok (.aload 6, 2) := by decide +kernel
theorem dX11_watch_9 : decode cX11_watch 9 = .ok (.ifnonnull 5, 3) := by decide +kernel
theorem dX11_watch_12 : decode cX11_watch 12 = .ok (.iconst (-1), 1) := by decide +kernel
theorem dX11_watch_13 : decode cX11_watch 13 = .ok (.ireturn, 1) := by decide +kernel
theorem dX11_watch_14 : decode cX11_watch 14 = .ok (.iload_n 2, 1) := by decide +kernel
theorem dX11_watch_15 : decode cX11_watch 15 = .ok (.iload_n 3, 1) := by decide +kernel
theorem dX11_watch_16 : decode cX11_watch 16 = .ok (.invokestatic 196, 3) := by decide +kernel
theorem dX11_watch_19 : decode cX11_watch 19 = .ok (.ifCond .eq 13, 3) := by decide +kernel
theorem dX11_watch_22 : decode cX11_watch 22 = .ok (.iload 4, 2) := by decide +kernel
theorem dX11_watch_24 : decode cX11_watch 24 = .ok (.iload 5, 2) := by decide +kernel
theorem dX11_watch_26 : decode cX11_watch 26 = .ok (.invokestatic 196, 3) := by decide +kernel
theorem dX11_watch_29 : decode cX11_watch 29 = .ok (.ifCond .ne 6, 3) := by decide +kernel
theorem dX11_watch_32 : decode cX11_watch 32 = .ok (.bipush (-2), 2) := by decide +kernel
theorem dX11_watch_34 : decode cX11_watch 34 = .ok (.ireturn, 1) := by decide +kernel
theorem dX11_watch_35 : decode cX11_watch 35 = .ok (.aload 6, 2) := by decide +kernel
theorem dX11_watch_37 : decode cX11_watch 37 = .ok (.iload_n 2, 1) := by decide +kernel
theorem dX11_watch_38 : decode cX11_watch 38 = .ok (.iload_n 3, 1) := by decide +kernel
theorem dX11_watch_39 : decode cX11_watch 39 = .ok (.iload 4, 2) := by decide +kernel
theorem dX11_watch_41 : decode cX11_watch 41 = .ok (.iload 5, 2) := by decide +kernel
theorem dX11_watch_43 : decode cX11_watch 43 = .ok (.invokevirtual 200, 3) := by decide +kernel
theorem dX11_watch_46 : decode cX11_watch 46 = .ok (.iconst 1, 1) := by decide +kernel
theorem dX11_watch_47 : decode cX11_watch 47 = .ok (.ireturn, 1) := by decide +kernel
theorem dX11_right_0 : decode cX11_right 0 = .ok (.aload_n 0, 1) := by decide +kernel
theorem dX11_right_1 : decode cX11_right 1 = .ok (.iload_n 1, 1) := by decide +kernel
theorem dX11_right_2 : decode cX11_right 2 = .ok (.invokevirtual 192, 3) := by decide +kernel
theorem dX11_right_5 : decode cX11_right 5 = .ok (.astore_n 3, 1) := by decide +kernel
theorem dX11_right_6 : decode cX11_right 6 = .ok (.aload_n 3, 1) := by decide +kernel
theorem dX11_right_7 : decode cX11_right 7 = .ok (.ifnull 10, 3) := by decide +kernel
theorem dX11_right_10 : decode cX11_right 10 = .ok (.iload_n 2, 1) := by decide +kernel
theorem dX11_right_11 : decode cX11_right 11 = .ok (.invokestatic 204, 3) := by decide +kernel
theorem dX11_right_14 : decode cX11_right 14 = .ok (.ifCond .ne 7, 3) := by decide +kernel
theorem dX11_right_17 : decode cX11_right 17 = .ok (.ldc2_w 154, 3) := by decide +kernel
theorem dX11_right_20 : decode cX11_right 20 = .ok (.lreturn, 1) := by decide +kernel
theorem dX11_right_21 : decode cX11_right 21 = .ok (.aload_n 3, 1) := by decide +kernel
theorem dX11_right_22 : decode cX11_right 22 = .ok (.iload_n 2, 1) := by decide +kernel
theorem dX11_right_23 : decode cX11_right 23 = .ok (.invokevirtual 207, 3) := by decide +kernel
theorem dX11_right_26 : decode cX11_right 26 = .ok (.lreturn, 1) := by decide +kernel
theorem dX11_strike_0 : decode cX11_strike 0 = .ok (.aload_n 0, 1) := by decide +kernel
theorem dX11_strike_1 : decode cX11_strike 1 = .ok (.iload_n 1, 1) := by decide +kernel
theorem dX11_strike_2 : decode cX11_strike 2 = .ok (.invokevirtual 192, 3) := by decide +kernel
theorem dX11_strike_5 : decode cX11_strike 5 = .ok (.astore_n 3, 1) := by decide +kernel
theorem dX11_strike_6 : decode cX11_strike 6 = .ok (.aload_n 3, 1) := by decide +kernel
theorem dX11_strike_7 : decode cX11_strike 7 = .ok (.ifnonnull 5, 3) := by decide +kernel
theorem dX11_strike_10 : decode cX11_strike 10 = .ok (.iconst (-1), 1) := by decide +kernel
theorem dX11_strike_11 : decode cX11_strike 11 = .ok (.ireturn, 1) := by decide +kernel
theorem dX11_strike_12 : decode cX11_strike 12 = .ok (.aload_n 3, 1) := by decide +kernel
theorem dX11_strike_13 : decode cX11_strike 13 = .ok (.getfield 210, 3) := by decide +kernel
theorem dX11_strike_16 : decode cX11_strike 16 = .ok (.iload_n 2, 1) := by decide +kernel
theorem dX11_strike_17 : decode cX11_strike 17 = .ok (.if_icmp .ne 5, 3) := by decide +kernel
theorem dX11_strike_20 : decode cX11_strike 20 = .ok (.iconst 0, 1) := by decide +kernel
theorem dX11_strike_21 : decode cX11_strike 21 = .ok (.ireturn, 1) := by decide +kernel
theorem dX11_strike_22 : decode cX11_strike 22 = .ok (.aload_n 3, 1) := by decide +kernel
theorem dX11_strike_23 : decode cX11_strike 23 = .ok (.iload_n 2, 1) := by decide +kernel
theorem dX11_strike_24 : decode cX11_strike 24 = .ok (.putfield 210, 3) := by decide +kernel
theorem dX11_strike_27 : decode cX11_strike 27 = .ok (.iconst 1, 1) := by decide +kernel
theorem dX11_strike_28 : decode cX11_strike 28 = .ok (.ireturn, 1) := by decide +kernel
theorem dX11_car_0 : decode cX11_car 0 = .ok (.iload_n 1, 1) := by decide +kernel
theorem dX11_car_1 : decode cX11_car 1 = .ok (.iconst 0, 1) := by decide +kernel
theorem dX11_car_2 : decode cX11_car 2 = .ok (.ldc 213, 2) := by decide +kernel
theorem dX11_car_4 : decode cX11_car 4 = .ok (.invokestatic 61, 3) := by decide +kernel
theorem dX11_car_7 : decode cX11_car 7 = .ok (.ifCond .eq 12, 3) := by decide +kernel
theorem dX11_car_10 : decode cX11_car 10 = .ok (.iload_n 2, 1) := by decide +kernel
theorem dX11_car_11 : decode cX11_car 11 = .ok (.iconst 0, 1) := by decide +kernel
theorem dX11_car_12 : decode cX11_car 12 = .ok (.iconst 2, 1) := by decide +kernel
theorem dX11_car_13 : decode cX11_car 13 = .ok (.invokestatic 61, 3) := by decide +kernel
theorem dX11_car_16 : decode cX11_car 16 = .ok (.ifCond .ne 6, 3) := by decide +kernel
theorem dX11_car_19 : decode cX11_car 19 = .ok (.bipush (-2), 2) := by decide +kernel
theorem dX11_car_21 : decode cX11_car 21 = .ok (.ireturn, 1) := by decide +kernel
theorem dX11_car_22 : decode cX11_car 22 = .ok (.aload_n 0, 1) := by decide +kernel
theorem dX11_car_23 : decode cX11_car 23 = .ok (.getfield 214, 3) := by decide +kernel
theorem dX11_car_26 : decode cX11_car 26 = .ok (.bipush 8, 2) := by decide +kernel
theorem dX11_car_28 : decode cX11_car 28 = .ok (.if_icmp .lt 6, 3) := by decide +kernel
theorem dX11_car_31 : decode cX11_car 31 = .ok (.bipush (-4), 2) := by decide +kernel
theorem dX11_car_33 : decode cX11_car 33 = .ok (.ireturn, 1) := by decide +kernel
theorem dX11_car_34 : decode cX11_car 34 = .ok (.aload_n 0, 1) := by decide +kernel
theorem dX11_car_35 : decode cX11_car 35 = .ok (.getfield 46, 3) := by decide +kernel
theorem dX11_car_38 : decode cX11_car 38 = .ok (.aload_n 0, 1) := by decide +kernel
theorem dX11_car_39 : decode cX11_car 39 = .ok (.getfield 214, 3) := by decide +kernel
theorem dX11_car_42 : decode cX11_car 42 = .ok (.aload_n 0, 1) := by decide +kernel
theorem dX11_car_43 : decode cX11_car 43 = .ok (.getfield 214, 3) := by decide +kernel
theorem dX11_car_46 : decode cX11_car 46 = .ok (.iload_n 1, 1) := by decide +kernel
theorem dX11_car_47 : decode cX11_car 47 = .ok (.iload_n 2, 1) := by decide +kernel
theorem dX11_car_48 : decode cX11_car 48 = .ok (.invokestatic 217, 3) := by decide +kernel
theorem dX11_car_51 : decode cX11_car 51 = .ok (.aastore, 1) := by decide +kernel
theorem dX11_car_52 : decode cX11_car 52 = .ok (.aload_n 0, 1) := by decide +kernel
theorem dX11_car_53 : decode cX11_car 53 = .ok (.dup, 1) := by decide +kernel
theorem dX11_car_54 : decode cX11_car 54 = .ok (.getfield 214, 3) := by decide +kernel
theorem dX11_car_57 : decode cX11_car 57 = .ok (.iconst 1, 1) := by decide +kernel
theorem dX11_car_58 : decode cX11_car 58 = .ok (.iadd, 1) := by decide +kernel
theorem dX11_car_59 : decode cX11_car 59 = .ok (.putfield 214, 3) := by decide +kernel
theorem dX11_car_62 : decode cX11_car 62 = .ok (.aload_n 0, 1) := by decide +kernel
theorem dX11_car_63 : decode cX11_car 63 = .ok (.getfield 214, 3) := by decide +kernel
theorem dX11_car_66 : decode cX11_car 66 = .ok (.iconst 1, 1) := by decide +kernel
theorem dX11_car_67 : decode cX11_car 67 = .ok (.isub, 1) := by decide +kernel
theorem dX11_car_68 : decode cX11_car 68 = .ok (.ireturn, 1) := by decide +kernel
theorem dX11_clock_0 : decode cX11_clock 0 = .ok (.aload_n 0, 1) := by decide +kernel
theorem dX11_clock_1 : decode cX11_clock 1 = .ok (.iload_n 1, 1) := by decide +kernel
theorem dX11_clock_2 : decode cX11_clock 2 = .ok (.invokevirtual 221, 3) := by decide +kernel
theorem dX11_clock_5 : decode cX11_clock 5 = .ok (.astore 4, 2) := by decide +kernel
theorem dX11_clock_7 : decode cX11_clock 7 = .ok (.aload 4, 2) := by decide +kernel
theorem dX11_clock_9 : decode cX11_clock 9 = .ok (.ifnull 11, 3) := by decide +kernel
theorem dX11_clock_12 : decode cX11_clock 12 = .ok (.aload_n 0, 1) := by decide +kernel
theorem dX11_clock_13 : decode cX11_clock 13 = .ok (.iload_n 2, 1) := by decide +kernel
theorem dX11_clock_14 : decode cX11_clock 14 = .ok (.invokevirtual 192, 3) := by decide +kernel
theorem dX11_clock_17 : decode cX11_clock 17 = .ok (.ifnonnull 5, 3) := by decide +kernel
theorem dX11_clock_20 : decode cX11_clock 20 = .ok (.iconst (-1), 1) := by decide +kernel
theorem dX11_clock_21 : decode cX11_clock 21 = .ok (.ireturn, 1) := by decide +kernel
theorem dX11_clock_22 : decode cX11_clock 22 = .ok (.iload_n 3, 1) := by decide +kernel
theorem dX11_clock_23 : decode cX11_clock 23 = .ok (.invokestatic 204, 3) := by decide +kernel
theorem dX11_clock_26 : decode cX11_clock 26 = .ok (.ifCond .ne 6, 3) := by decide +kernel
theorem dX11_clock_29 : decode cX11_clock 29 = .ok (.bipush (-2), 2) := by decide +kernel
theorem dX11_clock_31 : decode cX11_clock 31 = .ok (.ireturn, 1) := by decide +kernel
theorem dX11_clock_32 : decode cX11_clock 32 = .ok (.aload 4, 2) := by decide +kernel
theorem dX11_clock_34 : decode cX11_clock 34 = .ok (.iload_n 2, 1) := by decide +kernel
theorem dX11_clock_35 : decode cX11_clock 35 = .ok (.invokevirtual 225, 3) := by decide +kernel
theorem dX11_clock_38 : decode cX11_clock 38 = .ok (.ifCond .eq 6, 3) := by decide +kernel
theorem dX11_clock_41 : decode cX11_clock 41 = .ok (.bipush (-3), 2) := by decide +kernel
theorem dX11_clock_43 : decode cX11_clock 43 = .ok (.ireturn, 1) := by decide +kernel
theorem dX11_clock_44 : decode cX11_clock 44 = .ok (.aload 4, 2) := by decide +kernel
theorem dX11_clock_46 : decode cX11_clock 46 = .ok (.iload_n 2, 1) := by decide +kernel
theorem dX11_clock_47 : decode cX11_clock 47 = .ok (.iload_n 3, 1) := by decide +kernel
theorem dX11_clock_48 : decode cX11_clock 48 = .ok (.invokevirtual 228, 3) := by decide +kernel
theorem dX11_clock_51 : decode cX11_clock 51 = .ok (.iconst 1, 1) := by decide +kernel
theorem dX11_clock_52 : decode cX11_clock 52 = .ok (.ireturn, 1) := by decide +kernel
theorem dX11_allow_0 : decode cX11_allow 0 = .ok (.aload_n 0, 1) := by decide +kernel
theorem dX11_allow_1 : decode cX11_allow 1 = .ok (.iload_n 1, 1) := by decide +kernel
theorem dX11_allow_2 : decode cX11_allow 2 = .ok (.invokevirtual 221, 3) := by decide +kernel
theorem dX11_allow_5 : decode cX11_allow 5 = .ok (.astore 4, 2) := by decide +kernel
theorem dX11_allow_7 : decode cX11_allow 7 = .ok (.aload 4, 2) := by decide +kernel
theorem dX11_allow_9 : decode cX11_allow 9 = .ok (.ifnull 11, 3) := by decide +kernel
theorem dX11_allow_12 : decode cX11_allow 12 = .ok (.aload_n 0, 1) := by decide +kernel
theorem dX11_allow_13 : decode cX11_allow 13 = .ok (.iload_n 2, 1) := by decide +kernel
theorem dX11_allow_14 : decode cX11_allow 14 = .ok (.invokevirtual 192, 3) := by decide +kernel
theorem dX11_allow_17 : decode cX11_allow 17 = .ok (.ifnonnull 5, 3) := by decide +kernel
theorem dX11_allow_20 : decode cX11_allow 20 = .ok (.iconst (-1), 1) := by decide +kernel
theorem dX11_allow_21 : decode cX11_allow 21 = .ok (.ireturn, 1) := by decide +kernel
theorem dX11_allow_22 : decode cX11_allow 22 = .ok (.iload_n 3, 1) := by decide +kernel
theorem dX11_allow_23 : decode cX11_allow 23 = .ok (.iconst 0, 1) := by decide +kernel
theorem dX11_allow_24 : decode cX11_allow 24 = .ok (.sipush 3000, 3) := by decide +kernel
theorem dX11_allow_27 : decode cX11_allow 27 = .ok (.invokestatic 61, 3) := by decide +kernel
theorem dX11_allow_30 : decode cX11_allow 30 = .ok (.ifCond .ne 6, 3) := by decide +kernel
theorem dX11_allow_33 : decode cX11_allow 33 = .ok (.bipush (-2), 2) := by decide +kernel
theorem dX11_allow_35 : decode cX11_allow 35 = .ok (.ireturn, 1) := by decide +kernel
theorem dX11_allow_36 : decode cX11_allow 36 = .ok (.aload 4, 2) := by decide +kernel
theorem dX11_allow_38 : decode cX11_allow 38 = .ok (.getfield 231, 3) := by decide +kernel
theorem dX11_allow_41 : decode cX11_allow 41 = .ok (.iload_n 2, 1) := by decide +kernel
theorem dX11_allow_42 : decode cX11_allow 42 = .ok (.iaload, 1) := by decide +kernel
theorem dX11_allow_43 : decode cX11_allow 43 = .ok (.istore 5, 2) := by decide +kernel
theorem dX11_allow_45 : decode cX11_allow 45 = .ok (.aload 4, 2) := by decide +kernel
theorem dX11_allow_47 : decode cX11_allow 47 = .ok (.getfield 231, 3) := by decide +kernel
theorem dX11_allow_50 : decode cX11_allow 50 = .ok (.iload_n 2, 1) := by decide +kernel
theorem dX11_allow_51 : decode cX11_allow 51 = .ok (.iload_n 3, 1) := by decide +kernel
theorem dX11_allow_52 : decode cX11_allow 52 = .ok (.iastore, 1) := by decide +kernel
theorem dX11_allow_53 : decode cX11_allow 53 = .ok (.iload 5, 2) := by decide +kernel
theorem dX11_allow_55 : decode cX11_allow 55 = .ok (.ireturn, 1) := by decide +kernel
theorem dX11_error_0 : decode cX11_error 0 = .ok (.aload_n 0, 1) := by decide +kernel
theorem dX11_error_1 : decode cX11_error 1 = .ok (.iload_n 1, 1) := by decide +kernel
theorem dX11_error_2 : decode cX11_error 2 = .ok (.invokevirtual 221, 3) := by decide +kernel
theorem dX11_error_5 : decode cX11_error 5 = .ok (.astore_n 3, 1) := by decide +kernel
theorem dX11_error_6 : decode cX11_error 6 = .ok (.aload_n 3, 1) := by decide +kernel
theorem dX11_error_7 : decode cX11_error 7 = .ok (.ifnull 11, 3) := by decide +kernel
theorem dX11_error_10 : decode cX11_error 10 = .ok (.aload_n 0, 1) := by decide +kernel
theorem dX11_error_11 : decode cX11_error 11 = .ok (.iload_n 2, 1) := by decide +kernel
theorem dX11_error_12 : decode cX11_error 12 = .ok (.invokevirtual 192, 3) := by decide +kernel
theorem dX11_error_15 : decode cX11_error 15 = .ok (.ifnonnull 7, 3) := by decide +kernel
theorem dX11_error_18 : decode cX11_error 18 = .ok (.ldc2_w 154, 3) := by decide +kernel
theorem dX11_error_21 : decode cX11_error 21 = .ok (.lreturn, 1) := by decide +kernel
theorem dX11_error_22 : decode cX11_error 22 = .ok (.aload_n 3, 1) := by decide +kernel
theorem dX11_error_23 : decode cX11_error 23 = .ok (.iload_n 2, 1) := by decide +kernel
theorem dX11_error_24 : decode cX11_error 24 = .ok (.invokevirtual 225, 3) := by decide +kernel
theorem dX11_error_27 : decode cX11_error 27 = .ok (.ifCond .eq 13, 3) := by decide +kernel
theorem dX11_error_30 : decode cX11_error 30 = .ok (.aload_n 0, 1) := by decide +kernel
theorem dX11_error_31 : decode cX11_error 31 = .ok (.getfield 34, 3) := by decide +kernel
theorem dX11_error_34 : decode cX11_error 34 = .ok (.invokevirtual 174, 3) := by decide +kernel
theorem dX11_error_37 : decode cX11_error 37 = .ok (.ifCond .ne 7, 3) := by decide +kernel
theorem dX11_error_40 : decode cX11_error 40 = .ok (.ldc2_w 154, 3) := by decide +kernel
theorem dX11_error_43 : decode cX11_error 43 = .ok (.lreturn, 1) := by decide +kernel
theorem dX11_error_44 : decode cX11_error 44 = .ok (.aload_n 0, 1) := by decide +kernel
theorem dX11_error_45 : decode cX11_error 45 = .ok (.aload_n 3, 1) := by decide +kernel
theorem dX11_error_46 : decode cX11_error 46 = .ok (.iload_n 2, 1) := by decide +kernel
theorem dX11_error_47 : decode cX11_error 47 = .ok (.invokevirtual 234, 3) := by decide +kernel
theorem dX11_error_50 : decode cX11_error 50 = .ok (.lreturn, 1) := by decide +kernel
theorem dX11_points_0 : decode cX11_points 0 = .ok (.aload_n 0, 1) := by decide +kernel
theorem dX11_points_1 : decode cX11_points 1 = .ok (.iload_n 1, 1) := by decide +kernel
theorem dX11_points_2 : decode cX11_points 2 = .ok (.invokevirtual 221, 3) := by decide +kernel
theorem dX11_points_5 : decode cX11_points 5 = .ok (.astore_n 3, 1) := by decide +kernel
theorem dX11_points_6 : decode cX11_points 6 = .ok (.aload_n 3, 1) := by decide +kernel
theorem dX11_points_7 : decode cX11_points 7 = .ok (.ifnull 11, 3) := by decide +kernel
theorem dX11_points_10 : decode cX11_points 10 = .ok (.aload_n 0, 1) := by decide +kernel
theorem dX11_points_11 : decode cX11_points 11 = .ok (.iload_n 2, 1) := by decide +kernel
theorem dX11_points_12 : decode cX11_points 12 = .ok (.invokevirtual 192, 3) := by decide +kernel
theorem dX11_points_15 : decode cX11_points 15 = .ok (.ifnonnull 5, 3) := by decide +kernel
theorem dX11_points_18 : decode cX11_points 18 = .ok (.iconst (-1), 1) := by decide +kernel
theorem dX11_points_19 : decode cX11_points 19 = .ok (.ireturn, 1) := by decide +kernel
theorem dX11_points_20 : decode cX11_points 20 = .ok (.aload_n 0, 1) := by decide +kernel
theorem dX11_points_21 : decode cX11_points 21 = .ok (.getfield 34, 3) := by decide +kernel
theorem dX11_points_24 : decode cX11_points 24 = .ok (.invokevirtual 174, 3) := by decide +kernel
theorem dX11_points_27 : decode cX11_points 27 = .ok (.ifCond .ne 6, 3) := by decide +kernel
theorem dX11_points_30 : decode cX11_points 30 = .ok (.bipush (-3), 2) := by decide +kernel
theorem dX11_points_32 : decode cX11_points 32 = .ok (.ireturn, 1) := by decide +kernel
theorem dX11_points_33 : decode cX11_points 33 = .ok (.aload_n 0, 1) := by decide +kernel
theorem dX11_points_34 : decode cX11_points 34 = .ok (.aload_n 3, 1) := by decide +kernel
theorem dX11_points_35 : decode cX11_points 35 = .ok (.iload_n 2, 1) := by decide +kernel
theorem dX11_points_36 : decode cX11_points 36 = .ok (.invokevirtual 238, 3) := by decide +kernel
theorem dX11_points_39 : decode cX11_points 39 = .ok (.ireturn, 1) := by decide +kernel
theorem dX11_result_0 : decode cX11_result 0 = .ok (.aload_n 0, 1) := by decide +kernel
theorem dX11_result_1 : decode cX11_result 1 = .ok (.iload_n 1, 1) := by decide +kernel
theorem dX11_result_2 : decode cX11_result 2 = .ok (.invokevirtual 221, 3) := by decide +kernel
theorem dX11_result_5 : decode cX11_result 5 = .ok (.astore_n 3, 1) := by decide +kernel
theorem dX11_result_6 : decode cX11_result 6 = .ok (.aload_n 3, 1) := by decide +kernel
theorem dX11_result_7 : decode cX11_result 7 = .ok (.ifnonnull 5, 3) := by decide +kernel
theorem dX11_result_10 : decode cX11_result 10 = .ok (.iconst (-1), 1) := by decide +kernel
theorem dX11_result_11 : decode cX11_result 11 = .ok (.ireturn, 1) := by decide +kernel
theorem dX11_result_12 : decode cX11_result 12 = .ok (.iload_n 2, 1) := by decide +kernel
theorem dX11_result_13 : decode cX11_result 13 = .ok (.iconst 0, 1) := by decide +kernel
theorem dX11_result_14 : decode cX11_result 14 = .ok (.iconst 3, 1) := by decide +kernel
theorem dX11_result_15 : decode cX11_result 15 = .ok (.invokestatic 61, 3) := by decide +kernel
theorem dX11_result_18 : decode cX11_result 18 = .ok (.ifCond .ne 6, 3) := by decide +kernel
theorem dX11_result_21 : decode cX11_result 21 = .ok (.bipush (-2), 2) := by decide +kernel
theorem dX11_result_23 : decode cX11_result 23 = .ok (.ireturn, 1) := by decide +kernel
theorem dX11_result_24 : decode cX11_result 24 = .ok (.aload_n 0, 1) := by decide +kernel
theorem dX11_result_25 : decode cX11_result 25 = .ok (.getfield 34, 3) := by decide +kernel
theorem dX11_result_28 : decode cX11_result 28 = .ok (.invokevirtual 174, 3) := by decide +kernel
theorem dX11_result_31 : decode cX11_result 31 = .ok (.ifCond .ne 6, 3) := by decide +kernel
theorem dX11_result_34 : decode cX11_result 34 = .ok (.bipush (-3), 2) := by decide +kernel
theorem dX11_result_36 : decode cX11_result 36 = .ok (.ireturn, 1) := by decide +kernel
theorem dX11_result_37 : decode cX11_result 37 = .ok (.iload_n 2, 1) := by decide +kernel
theorem dX11_result_38 : decode cX11_result 38 = .ok (.tableswitch 44 0 2 #[26, 32, 38], 26) := by decide +kernel
theorem dX11_result_64 : decode cX11_result 64 = .ok (.aload_n 0, 1) := by decide +kernel
theorem dX11_result_65 : decode cX11_result 65 = .ok (.aload_n 3, 1) := by decide +kernel
theorem dX11_result_66 : decode cX11_result 66 = .ok (.invokevirtual 242, 3) := by decide +kernel
theorem dX11_result_69 : decode cX11_result 69 = .ok (.ireturn, 1) := by decide +kernel
theorem dX11_result_70 : decode cX11_result 70 = .ok (.aload_n 0, 1) := by decide +kernel
theorem dX11_result_71 : decode cX11_result 71 = .ok (.aload_n 3, 1) := by decide +kernel
theorem dX11_result_72 : decode cX11_result 72 = .ok (.invokevirtual 246, 3) := by decide +kernel
theorem dX11_result_75 : decode cX11_result 75 = .ok (.ireturn, 1) := by decide +kernel
theorem dX11_result_76 : decode cX11_result 76 = .ok (.aload_n 0, 1) := by decide +kernel
theorem dX11_result_77 : decode cX11_result 77 = .ok (.aload_n 3, 1) := by decide +kernel
theorem dX11_result_78 : decode cX11_result 78 = .ok (.invokevirtual 249, 3) := by decide +kernel
theorem dX11_result_81 : decode cX11_result 81 = .ok (.ireturn, 1) := by decide +kernel
theorem dX11_result_82 : decode cX11_result 82 = .ok (.aload_n 0, 1) := by decide +kernel
theorem dX11_result_83 : decode cX11_result 83 = .ok (.aload_n 3, 1) := by decide +kernel
theorem dX11_result_84 : decode cX11_result 84 = .ok (.invokevirtual 252, 3) := by decide +kernel
theorem dX11_result_87 : decode cX11_result 87 = .ok (.ireturn, 1) := by decide +kernel
theorem dX11_sheet_0 : decode cX11_sheet 0 = .ok (.aload_n 0, 1) := by decide +kernel
theorem dX11_sheet_1 : decode cX11_sheet 1 = .ok (.iconst 0, 1) := by decide +kernel
theorem dX11_sheet_2 : decode cX11_sheet 2 = .ok (.putfield 81, 3) := by decide +kernel
theorem dX11_sheet_5 : decode cX11_sheet 5 = .ok (.aload_n 0, 1) := by decide +kernel
theorem dX11_sheet_6 : decode cX11_sheet 6 = .ok (.iload_n 1, 1) := by decide +kernel
theorem dX11_sheet_7 : decode cX11_sheet 7 = .ok (.invokevirtual 112, 3) := by decide +kernel
theorem dX11_sheet_10 : decode cX11_sheet 10 = .ok (.astore 4, 2) := by decide +kernel
theorem dX11_sheet_12 : decode cX11_sheet 12 = .ok (.aload 4, 2) := by decide +kernel
theorem dX11_sheet_14 : decode cX11_sheet 14 = .ok (.ifnonnull 5, 3) := by decide +kernel
theorem dX11_sheet_17 : decode cX11_sheet 17 = .ok (.iconst (-1), 1) := by decide +kernel
theorem dX11_sheet_18 : decode cX11_sheet 18 = .ok (.ireturn, 1) := by decide +kernel
theorem dX11_sheet_19 : decode cX11_sheet 19 = .ok (.iload_n 2, 1) := by decide +kernel
theorem dX11_sheet_20 : decode cX11_sheet 20 = .ok (.invokestatic 116, 3) := by decide +kernel
theorem dX11_sheet_23 : decode cX11_sheet 23 = .ok (.ifCond .eq 9, 3) := by decide +kernel
theorem dX11_sheet_26 : decode cX11_sheet 26 = .ok (.iload_n 3, 1) := by decide +kernel
theorem dX11_sheet_27 : decode cX11_sheet 27 = .ok (.bipush 32, 2) := by decide +kernel
theorem dX11_sheet_29 : decode cX11_sheet 29 = .ok (.if_icmp .le 6, 3) := by decide +kernel
theorem dX11_sheet_32 : decode cX11_sheet 32 = .ok (.bipush (-2), 2) := by decide +kernel
theorem dX11_sheet_34 : decode cX11_sheet 34 = .ok (.ireturn, 1) := by decide +kernel
theorem dX11_sheet_35 : decode cX11_sheet 35 = .ok (.iload_n 3, 1) := by decide +kernel
theorem dX11_sheet_36 : decode cX11_sheet 36 = .ok (.ifCond .ge 9, 3) := by decide +kernel
theorem dX11_sheet_39 : decode cX11_sheet 39 = .ok (.aload_n 0, 1) := by decide +kernel
theorem dX11_sheet_40 : decode cX11_sheet 40 = .ok (.iconst 4, 1) := by decide +kernel
theorem dX11_sheet_41 : decode cX11_sheet 41 = .ok (.invokevirtual 89, 3) := by decide +kernel
theorem dX11_sheet_44 : decode cX11_sheet 44 = .ok (.ireturn, 1) := by decide +kernel
theorem dX11_sheet_45 : decode cX11_sheet 45 = .ok (.aload 4, 2) := by decide +kernel
theorem dX11_sheet_47 : decode cX11_sheet 47 = .ok (.iload_n 2, 1) := by decide +kernel
theorem dX11_sheet_48 : decode cX11_sheet 48 = .ok (.iload_n 3, 1) := by decide +kernel
theorem dX11_sheet_49 : decode cX11_sheet 49 = .ok (.invokevirtual 255, 3) := by decide +kernel
theorem dX11_sheet_52 : decode cX11_sheet 52 = .ok (.iconst 1, 1) := by decide +kernel
theorem dX11_sheet_53 : decode cX11_sheet 53 = .ok (.ireturn, 1) := by decide +kernel
theorem dX11_lose_0 : decode cX11_lose 0 = .ok (.aload_n 0, 1) := by decide +kernel
theorem dX11_lose_1 : decode cX11_lose 1 = .ok (.iload_n 1, 1) := by decide +kernel
theorem dX11_lose_2 : decode cX11_lose 2 = .ok (.invokevirtual 112, 3) := by decide +kernel
theorem dX11_lose_5 : decode cX11_lose 5 = .ok (.astore_n 2, 1) := by decide +kernel
theorem dX11_lose_6 : decode cX11_lose 6 = .ok (.aload_n 2, 1) := by decide +kernel
theorem dX11_lose_7 : decode cX11_lose 7 = .ok (.ifnonnull 5, 3) := by decide +kernel
theorem dX11_lose_10 : decode cX11_lose 10 = .ok (.iconst (-1), 1) := by decide +kernel
theorem dX11_lose_11 : decode cX11_lose 11 = .ok (.ireturn, 1) := by decide +kernel
theorem dX11_lose_12 : decode cX11_lose 12 = .ok (.aload_n 2, 1) := by decide +kernel
theorem dX11_lose_13 : decode cX11_lose 13 = .ok (.getfield 258, 3) := by decide +kernel
theorem dX11_lose_16 : decode cX11_lose 16 = .ok (.ifCond .ne 5, 3) := by decide +kernel
theorem dX11_lose_19 : decode cX11_lose 19 = .ok (.iconst 0, 1) := by decide +kernel
theorem dX11_lose_20 : decode cX11_lose 20 = .ok (.ireturn, 1) := by decide +kernel
theorem dX11_lose_21 : decode cX11_lose 21 = .ok (.aload_n 2, 1) := by decide +kernel
theorem dX11_lose_22 : decode cX11_lose 22 = .ok (.iconst 0, 1) := by decide +kernel
theorem dX11_lose_23 : decode cX11_lose 23 = .ok (.putfield 258, 3) := by decide +kernel
theorem dX11_lose_26 : decode cX11_lose 26 = .ok (.iconst 1, 1) := by decide +kernel
theorem dX11_lose_27 : decode cX11_lose 27 = .ok (.ireturn, 1) := by decide +kernel
theorem dX11_put_0 : decode cX11_put 0 = .ok (.aload_n 0, 1) := by decide +kernel
theorem dX11_put_1 : decode cX11_put 1 = .ok (.iconst 0, 1) := by decide +kernel
theorem dX11_put_2 : decode cX11_put 2 = .ok (.putfield 81, 3) := by decide +kernel
theorem dX11_put_5 : decode cX11_put 5 = .ok (.aload_n 0, 1) := by decide +kernel
theorem dX11_put_6 : decode cX11_put 6 = .ok (.iload_n 1, 1) := by decide +kernel
theorem dX11_put_7 : decode cX11_put 7 = .ok (.invokevirtual 112, 3) := by decide +kernel
theorem dX11_put_10 : decode cX11_put 10 = .ok (.astore 4, 2) := by decide +kernel
theorem dX11_put_12 : decode cX11_put 12 = .ok (.aload 4, 2) := by decide +kernel
theorem dX11_put_14 : decode cX11_put 14 = .ok (.ifnonnull 5, 3) := by decide +kernel
theorem dX11_put_17 : decode cX11_put 17 = .ok (.iconst (-1), 1) := by decide +kernel
theorem dX11_put_18 : decode cX11_put 18 = .ok (.ireturn, 1) := by decide +kernel
theorem dX11_put_19 : decode cX11_put 19 = .ok (.aload 4, 2) := by decide +kernel
theorem dX11_put_21 : decode cX11_put 21 = .ok (.aload 4, 2) := by decide +kernel
theorem dX11_put_23 : decode cX11_put 23 = .ok (.getfield 261, 3) := by decide +kernel
theorem dX11_put_26 : decode cX11_put 26 = .ok (.iload_n 2, 1) := by decide +kernel
theorem dX11_put_27 : decode cX11_put 27 = .ok (.iconst 1, 1) := by decide +kernel
theorem dX11_put_28 : decode cX11_put 28 = .ok (.invokevirtual 119, 3) := by decide +kernel
theorem dX11_put_31 : decode cX11_put 31 = .ok (.istore 5, 2) := by decide +kernel
theorem dX11_put_33 : decode cX11_put 33 = .ok (.iload 5, 2) := by decide +kernel
theorem dX11_put_35 : decode cX11_put 35 = .ok (.ifCond .eq 10, 3) := by decide +kernel
theorem dX11_put_38 : decode cX11_put 38 = .ok (.aload_n 0, 1) := by decide +kernel
theorem dX11_put_39 : decode cX11_put 39 = .ok (.iload 5, 2) := by decide +kernel
theorem dX11_put_41 : decode cX11_put 41 = .ok (.invokevirtual 89, 3) := by decide +kernel
theorem dX11_put_44 : decode cX11_put 44 = .ok (.ireturn, 1) := by decide +kernel
theorem dX11_put_45 : decode cX11_put 45 = .ok (.aload 4, 2) := by decide +kernel
theorem dX11_put_47 : decode cX11_put 47 = .ok (.getfield 123, 3) := by decide +kernel
theorem dX11_put_50 : decode cX11_put 50 = .ok (.iload_n 2, 1) := by decide +kernel
theorem dX11_put_51 : decode cX11_put 51 = .ok (.iload_n 3, 1) := by decide +kernel
theorem dX11_put_52 : decode cX11_put 52 = .ok (.aload 4, 2) := by decide +kernel
theorem dX11_put_54 : decode cX11_put 54 = .ok (.getfield 261, 3) := by decide +kernel
theorem dX11_put_57 : decode cX11_put 57 = .ok (.invokestatic 264, 3) := by decide +kernel
theorem dX11_put_60 : decode cX11_put 60 = .ok (.iastore, 1) := by decide +kernel
theorem dX11_put_61 : decode cX11_put 61 = .ok (.iconst 1, 1) := by decide +kernel
theorem dX11_put_62 : decode cX11_put 62 = .ok (.ireturn, 1) := by decide +kernel
theorem dX11_cell_0 : decode cX11_cell 0 = .ok (.aload_n 0, 1) := by decide +kernel
theorem dX11_cell_1 : decode cX11_cell 1 = .ok (.iconst 0, 1) := by decide +kernel
theorem dX11_cell_2 : decode cX11_cell 2 = .ok (.putfield 81, 3) := by decide +kernel
theorem dX11_cell_5 : decode cX11_cell 5 = .ok (.aload_n 0, 1) := by decide +kernel
theorem dX11_cell_6 : decode cX11_cell 6 = .ok (.iload_n 1, 1) := by decide +kernel
theorem dX11_cell_7 : decode cX11_cell 7 = .ok (.invokevirtual 112, 3) := by decide +kernel
theorem dX11_cell_10 : decode cX11_cell 10 = .ok (.astore 4, 2) := by decide +kernel
theorem dX11_cell_12 : decode cX11_cell 12 = .ok (.aload 4, 2) := by decide +kernel
theorem dX11_cell_14 : decode cX11_cell 14 = .ok (.ifnull 10, 3) := by decide +kernel
theorem dX11_cell_17 : decode cX11_cell 17 = .ok (.iload_n 3, 1) := by decide +kernel
theorem dX11_cell_18 : decode cX11_cell 18 = .ok (.invokestatic 116, 3) := by decide +kernel
theorem dX11_cell_21 : decode cX11_cell 21 = .ok (.ifCond .ne 7, 3) := by decide +kernel
theorem dX11_cell_24 : decode cX11_cell 24 = .ok (.ldc2_w 154, 3) := by decide +kernel
theorem dX11_cell_27 : decode cX11_cell 27 = .ok (.lreturn, 1) := by decide +kernel
theorem dX11_cell_28 : decode cX11_cell 28 = .ok (.aload 4, 2) := by decide +kernel
theorem dX11_cell_30 : decode cX11_cell 30 = .ok (.iload_n 3, 1) := by decide +kernel
theorem dX11_cell_31 : decode cX11_cell 31 = .ok (.iload_n 2, 1) := by decide +kernel
theorem dX11_cell_32 : decode cX11_cell 32 = .ok (.iconst 1, 1) := by decide +kernel
theorem dX11_cell_33 : decode cX11_cell 33 = .ok (.invokevirtual 119, 3) := by decide +kernel
theorem dX11_cell_36 : decode cX11_cell 36 = .ok (.istore 5, 2) := by decide +kernel
theorem dX11_cell_38 : decode cX11_cell 38 = .ok (.iload 5, 2) := by decide +kernel
theorem dX11_cell_40 : decode cX11_cell 40 = .ok (.ifCond .eq 10, 3) := by decide +kernel
theorem dX11_cell_43 : decode cX11_cell 43 = .ok (.aload_n 0, 1) := by decide +kernel
theorem dX11_cell_44 : decode cX11_cell 44 = .ok (.iload 5, 2) := by decide +kernel
theorem dX11_cell_46 : decode cX11_cell 46 = .ok (.invokevirtual 156, 3) := by decide +kernel
theorem dX11_cell_49 : decode cX11_cell 49 = .ok (.lreturn, 1) := by decide +kernel
theorem dX11_cell_50 : decode cX11_cell 50 = .ok (.aload 4, 2) := by decide +kernel
theorem dX11_cell_52 : decode cX11_cell 52 = .ok (.getfield 123, 3) := by decide +kernel
theorem dX11_cell_55 : decode cX11_cell 55 = .ok (.iload_n 2, 1) := by decide +kernel
theorem dX11_cell_56 : decode cX11_cell 56 = .ok (.iaload, 1) := by decide +kernel
theorem dX11_cell_57 : decode cX11_cell 57 = .ok (.i2l, 1) := by decide +kernel
theorem dX11_cell_58 : decode cX11_cell 58 = .ok (.lreturn, 1) := by decide +kernel
theorem dX11_copy_0 : decode cX11_copy 0 = .ok (.aload_n 0, 1) := by decide +kernel
theorem dX11_copy_1 : decode cX11_copy 1 = .ok (.iconst 0, 1) := by decide +kernel
theorem dX11_copy_2 : decode cX11_copy 2 = .ok (.putfield 81, 3) := by decide +kernel
theorem dX11_copy_5 : decode cX11_copy 5 = .ok (.aload_n 0, 1) := by decide +kernel
theorem dX11_copy_6 : decode cX11_copy 6 = .ok (.iload_n 1, 1) := by decide +kernel
theorem dX11_copy_7 : decode cX11_copy 7 = .ok (.invokevirtual 112, 3) := by decide +kernel
theorem dX11_copy_10 : decode cX11_copy 10 = .ok (.astore 6, 2) := by decide +kernel
theorem dX11_copy_12 : decode cX11_copy 12 = .ok (.aload_n 0, 1) := by decide +kernel
theorem dX11_copy_13 : decode cX11_copy 13 = .ok (.iload_n 3, 1) := by decide +kernel
theorem dX11_copy_14 : decode cX11_copy 14 = .ok (.invokevirtual 112, 3) := by decide +kernel
theorem dX11_copy_17 : decode cX11_copy 17 = .ok (.astore 7, 2) := by decide +kernel
theorem dX11_copy_19 : decode cX11_copy 19 = .ok (.aload 6, 2) := by decide +kernel
theorem dX11_copy_21 : decode cX11_copy 21 = .ok (.ifnull 8, 3) := by decide +kernel
theorem dX11_copy_24 : decode cX11_copy 24 = .ok (.aload 7, 2) := by decide +kernel
theorem dX11_copy_26 : decode cX11_copy 26 = .ok (.ifnonnull 5, 3) := by decide +kernel
theorem dX11_copy_29 : decode cX11_copy 29 = .ok (.iconst (-1), 1) := by decide +kernel
theorem dX11_copy_30 : decode cX11_copy 30 = .ok (.ireturn, 1) := by decide +kernel
theorem dX11_copy_31 : decode cX11_copy 31 = .ok (.aload 6, 2) := by decide +kernel
theorem dX11_copy_33 : decode cX11_copy 33 = .ok (.getfield 258, 3) := by decide +kernel
theorem dX11_copy_36 : decode cX11_copy 36 = .ok (.ifCond .eq 11, 3) := by decide +kernel
theorem dX11_copy_39 : decode cX11_copy 39 = .ok (.aload 7, 2) := by decide +kernel
theorem dX11_copy_41 : decode cX11_copy 41 = .ok (.getfield 258, 3) := by decide +kernel
theorem dX11_copy_44 : decode cX11_copy 44 = .ok (.ifCond .ne 9, 3) := by decide +kernel
theorem dX11_copy_47 : decode cX11_copy 47 = .ok (.aload_n 0, 1) := by decide +kernel
theorem dX11_copy_48 : decode cX11_copy 48 = .ok (.iconst 1, 1) := by decide +kernel
theorem dX11_copy_49 : decode cX11_copy 49 = .ok (.invokevirtual 89, 3) := by decide +kernel
theorem dX11_copy_52 : decode cX11_copy 52 = .ok (.ireturn, 1) := by decide +kernel
theorem dX11_copy_53 : decode cX11_copy 53 = .ok (.aload 6, 2) := by decide +kernel
theorem dX11_copy_55 : decode cX11_copy 55 = .ok (.getfield 261, 3) := by decide +kernel
theorem dX11_copy_58 : decode cX11_copy 58 = .ok (.aload 7, 2) := by decide +kernel
theorem dX11_copy_60 : decode cX11_copy 60 = .ok (.getfield 261, 3) := by decide +kernel
theorem dX11_copy_63 : decode cX11_copy 63 = .ok (.if_icmp .eq 9, 3) := by decide +kernel
theorem dX11_copy_66 : decode cX11_copy 66 = .ok (.aload_n 0, 1) := by decide +kernel
theorem dX11_copy_67 : decode cX11_copy 67 = .ok (.iconst 2, 1) := by decide +kernel
theorem dX11_copy_68 : decode cX11_copy 68 = .ok (.invokevirtual 89, 3) := by decide +kernel
theorem dX11_copy_71 : decode cX11_copy 71 = .ok (.ireturn, 1) := by decide +kernel
theorem dX11_copy_72 : decode cX11_copy 72 = .ok (.iload 5, 2) := by decide +kernel
theorem dX11_copy_74 : decode cX11_copy 74 = .ok (.ifCond .lt 26, 3) := by decide +kernel
theorem dX11_copy_77 : decode cX11_copy 77 = .ok (.aload 6, 2) := by decide +kernel
theorem dX11_copy_79 : decode cX11_copy 79 = .ok (.iload_n 2, 1) := by decide +kernel
theorem dX11_copy_80 : decode cX11_copy 80 = .ok (.iload 5, 2) := by decide +kernel
theorem dX11_copy_82 : decode cX11_copy 82 = .ok (.invokevirtual 268, 3) := by decide +kernel
theorem dX11_copy_85 : decode cX11_copy 85 = .ok (.ifCond .eq 15, 3) := by decide +kernel
theorem dX11_copy_88 : decode cX11_copy 88 = .ok (.aload 7, 2) := by decide +kernel
theorem dX11_copy_90 : decode cX11_copy 90 = .ok (.iload 4, 2) := by decide +kernel
theorem dX11_copy_92 : decode cX11_copy 92 = .ok (.iload 5, 2) := by decide +kernel
theorem dX11_copy_94 : decode cX11_copy 94 = .ok (.invokevirtual 268, 3) := by decide +kernel
theorem dX11_copy_97 : decode cX11_copy 97 = .ok (.ifCond .ne 9, 3) := by decide +kernel
theorem dX11_copy_100 : decode cX11_copy 100 = .ok (.aload_n 0, 1) := by decide +kernel
theorem dX11_copy_101 : decode cX11_copy 101 = .ok (.iconst 3, 1) := by decide +kernel
theorem dX11_copy_102 : decode cX11_copy 102 = .ok (.invokevirtual 89, 3) := by decide +kernel
theorem dX11_copy_105 : decode cX11_copy 105 = .ok (.ireturn, 1) := by decide +kernel
theorem dX11_copy_106 : decode cX11_copy 106 = .ok (.aload 6, 2) := by decide +kernel
theorem dX11_copy_108 : decode cX11_copy 108 = .ok (.getfield 123, 3) := by decide +kernel
theorem dX11_copy_111 : decode cX11_copy 111 = .ok (.iload_n 2, 1) := by decide +kernel
theorem dX11_copy_112 : decode cX11_copy 112 = .ok (.aload 7, 2) := by decide +kernel
theorem dX11_copy_114 : decode cX11_copy 114 = .ok (.getfield 123, 3) := by decide +kernel
theorem dX11_copy_117 : decode cX11_copy 117 = .ok (.iload 4, 2) := by decide +kernel
theorem dX11_copy_119 : decode cX11_copy 119 = .ok (.iload 5, 2) := by decide +kernel
theorem dX11_copy_121 : decode cX11_copy 121 = .ok (.invokestatic 271, 3) := by decide +kernel
theorem dX11_copy_124 : decode cX11_copy 124 = .ok (.iload 5, 2) := by decide +kernel
theorem dX11_copy_126 : decode cX11_copy 126 = .ok (.ireturn, 1) := by decide +kernel
theorem dX11_tell_0 : decode cX11_tell 0 = .ok (.aload_n 0, 1) := by decide +kernel
theorem dX11_tell_1 : decode cX11_tell 1 = .ok (.iload_n 1, 1) := by decide +kernel
theorem dX11_tell_2 : decode cX11_tell 2 = .ok (.invokevirtual 73, 3) := by decide +kernel
theorem dX11_tell_5 : decode cX11_tell 5 = .ok (.astore_n 2, 1) := by decide +kernel
theorem dX11_tell_6 : decode cX11_tell 6 = .ok (.aload_n 2, 1) := by decide +kernel
theorem dX11_tell_7 : decode cX11_tell 7 = .ok (.ifnonnull 5, 3) := by decide +kernel
theorem dX11_tell_10 : decode cX11_tell 10 = .ok (.iconst (-1), 1) := by decide +kernel
theorem dX11_tell_11 : decode cX11_tell 11 = .ok (.ireturn, 1) := by decide +kernel
theorem dX11_tell_12 : decode cX11_tell 12 = .ok (.aload_n 2, 1) := by decide +kernel
theorem dX11_tell_13 : decode cX11_tell 13 = .ok (.aload_n 0, 1) := by decide +kernel
theorem dX11_tell_14 : decode cX11_tell 14 = .ok (.invokevirtual 277, 3) := by decide +kernel
theorem dX11_tell_17 : decode cX11_tell 17 = .ok (.ireturn, 1) := by decide +kernel
theorem dX11_greet_0 : decode cX11_greet 0 = .ok (.aload_n 0, 1) := by decide +kernel
theorem dX11_greet_1 : decode cX11_greet 1 = .ok (.iload_n 1, 1) := by decide +kernel
theorem dX11_greet_2 : decode cX11_greet 2 = .ok (.invokevirtual 221, 3) := by decide +kernel
theorem dX11_greet_5 : decode cX11_greet 5 = .ok (.astore_n 2, 1) := by decide +kernel
theorem dX11_greet_6 : decode cX11_greet 6 = .ok (.aload_n 2, 1) := by decide +kernel
theorem dX11_greet_7 : decode cX11_greet 7 = .ok (.ifnonnull 5, 3) := by decide +kernel
theorem dX11_greet_10 : decode cX11_greet 10 = .ok (.iconst (-1), 1) := by decide +kernel
theorem dX11_greet_11 : decode cX11_greet 11 = .ok (.ireturn, 1) := by decide +kernel
theorem dX11_greet_12 : decode cX11_greet 12 = .ok (.aload_n 2, 1) := by decide +kernel
theorem dX11_greet_13 : decode cX11_greet 13 = .ok (.aload_n 0, 1) := by decide +kernel
theorem dX11_greet_14 : decode cX11_greet 14 = .ok (.invokevirtual 281, 3) := by decide +kernel
theorem dX11_greet_17 : decode cX11_greet 17 = .ok (.ireturn, 1) := by decide +kernel
theorem dX11_as_0 : decode cX11_as 0 = .ok (.aload_n 0, 1) := by decide +kernel
theorem dX11_as_1 : decode cX11_as 1 = .ok (.iconst 0, 1) := by decide +kernel
theorem dX11_as_2 : decode cX11_as 2 = .ok (.putfield 81, 3) := by decide +kernel
theorem dX11_as_5 : decode cX11_as 5 = .ok (.aload_n 0, 1) := by decide +kernel
theorem dX11_as_6 : decode cX11_as 6 = .ok (.iload_n 1, 1) := by decide +kernel
theorem dX11_as_7 : decode cX11_as 7 = .ok (.invokevirtual 221, 3) := by decide +kernel
theorem dX11_as_10 : decode cX11_as 10 = .ok (.astore_n 3, 1) := by decide +kernel
theorem dX11_as_11 : decode cX11_as 11 = .ok (.aload_n 3, 1) := by decide +kernel
theorem dX11_as_12 : decode cX11_as 12 = .ok (.ifnonnull 5, 3) := by decide +kernel
theorem dX11_as_15 : decode cX11_as 15 = .ok (.iconst (-1), 1) := by decide +kernel
theorem dX11_as_16 : decode cX11_as 16 = .ok (.ireturn, 1) := by decide +kernel
theorem dX11_as_17 : decode cX11_as 17 = .ok (.iload_n 2, 1) := by decide +kernel
theorem dX11_as_18 : decode cX11_as 18 = .ok (.iconst 0, 1) := by decide +kernel
theorem dX11_as_19 : decode cX11_as 19 = .ok (.iconst 2, 1) := by decide +kernel
theorem dX11_as_20 : decode cX11_as 20 = .ok (.invokestatic 61, 3) := by decide +kernel
theorem dX11_as_23 : decode cX11_as 23 = .ok (.ifCond .ne 6, 3) := by decide +kernel
theorem dX11_as_26 : decode cX11_as 26 = .ok (.bipush (-2), 2) := by decide +kernel
theorem dX11_as_28 : decode cX11_as 28 = .ok (.ireturn, 1) := by decide +kernel
theorem dX11_as_29 : decode cX11_as 29 = .ok (.aload_n 3, 1) := by decide +kernel
theorem dX11_as_30 : decode cX11_as 30 = .ok (.iload_n 2, 1) := by decide +kernel
theorem dX11_as_31 : decode cX11_as 31 = .ok (.invokestatic 284, 3) := by decide +kernel
theorem dX11_as_34 : decode cX11_as 34 = .ok (.ifCond .eq 7, 3) := by decide +kernel
theorem dX11_as_37 : decode cX11_as 37 = .ok (.iconst 1, 1) := by decide +kernel
theorem dX11_as_38 : decode cX11_as 38 = .ok (.goto 8, 3) := by decide +kernel
theorem dX11_as_41 : decode cX11_as 41 = .ok (.aload_n 0, 1) := by decide +kernel
theorem dX11_as_42 : decode cX11_as 42 = .ok (.iconst 2, 1) := by decide +kernel
theorem dX11_as_43 : decode cX11_as 43 = .ok (.invokevirtual 89, 3) := by decide +kernel
theorem dX11_as_46 : decode cX11_as 46 = .ok (.ireturn, 1) := by decide +kernel
theorem dX11_trace_0 : decode cX11_trace 0 = .ok (.aload_n 0, 1) := by decide +kernel
theorem dX11_trace_1 : decode cX11_trace 1 = .ok (.getfield 288, 3) := by decide +kernel
theorem dX11_trace_4 : decode cX11_trace 4 = .ok (.ireturn, 1) := by decide +kernel
theorem dX11_fault_0 : decode cX11_fault 0 = .ok (.aload_n 0, 1) := by decide +kernel
theorem dX11_fault_1 : decode cX11_fault 1 = .ok (.getfield 81, 3) := by decide +kernel
theorem dX11_fault_4 : decode cX11_fault 4 = .ok (.ireturn, 1) := by decide +kernel
theorem dX11_told_0 : decode cX11_told 0 = .ok (.iload_n 1, 1) := by decide +kernel
theorem dX11_told_1 : decode cX11_told 1 = .ok (.tableswitch 102 0 7 #[47, 52, 60, 68, 76, 81, 86, 94], 47) := by decide +kernel
theorem dX11_told_48 : decode cX11_told 48 = .ok (.aload_n 0, 1) := by decide +kernel
theorem dX11_told_49 : decode cX11_told 49 = .ok (.getfield 65, 3) := by decide +kernel
theorem dX11_told_52 : decode cX11_told 52 = .ok (.ireturn, 1) := by decide +kernel
theorem dX11_told_53 : decode cX11_told 53 = .ok (.aload_n 0, 1) := by decide +kernel
theorem dX11_told_54 : decode cX11_told 54 = .ok (.getfield 34, 3) := by decide +kernel
theorem dX11_told_57 : decode cX11_told 57 = .ok (.getfield 150, 3) := by decide +kernel
theorem dX11_told_60 : decode cX11_told 60 = .ok (.ireturn, 1) := by decide +kernel
theorem dX11_told_61 : decode cX11_told 61 = .ok (.aload_n 0, 1) := by decide +kernel
theorem dX11_told_62 : decode cX11_told 62 = .ok (.getfield 34, 3) := by decide +kernel
theorem dX11_told_65 : decode cX11_told 65 = .ok (.getfield 164, 3) := by decide +kernel
theorem dX11_told_68 : decode cX11_told 68 = .ok (.ireturn, 1) := by decide +kernel
theorem dX11_told_69 : decode cX11_told 69 = .ok (.aload_n 0, 1) := by decide +kernel
theorem dX11_told_70 : decode cX11_told 70 = .ok (.getfield 34, 3) := by decide +kernel
theorem dX11_told_73 : decode cX11_told 73 = .ok (.getfield 167, 3) := by decide +kernel
theorem dX11_told_76 : decode cX11_told 76 = .ok (.ireturn, 1) := by decide +kernel
theorem dX11_told_77 : decode cX11_told 77 = .ok (.aload_n 0, 1) := by decide +kernel
theorem dX11_told_78 : decode cX11_told 78 = .ok (.getfield 186, 3) := by decide +kernel
theorem dX11_told_81 : decode cX11_told 81 = .ok (.ireturn, 1) := by decide +kernel
theorem dX11_told_82 : decode cX11_told 82 = .ok (.aload_n 0, 1) := by decide +kernel
theorem dX11_told_83 : decode cX11_told 83 = .ok (.getfield 214, 3) := by decide +kernel
theorem dX11_told_86 : decode cX11_told 86 = .ok (.ireturn, 1) := by decide +kernel
theorem dX11_told_87 : decode cX11_told 87 = .ok (.aload_n 0, 1) := by decide +kernel
theorem dX11_told_88 : decode cX11_told 88 = .ok (.getfield 20, 3) := by decide +kernel
theorem dX11_told_91 : decode cX11_told 91 = .ok (.getfield 135, 3) := by decide +kernel
theorem dX11_told_94 : decode cX11_told 94 = .ok (.ireturn, 1) := by decide +kernel
theorem dX11_told_95 : decode cX11_told 95 = .ok (.aload_n 0, 1) := by decide +kernel
theorem dX11_told_96 : decode cX11_told 96 = .ok (.getfield 27, 3) := by decide +kernel
theorem dX11_told_99 : decode cX11_told 99 = .ok (.getfield 291, 3) := by decide +kernel
theorem dX11_told_102 : decode cX11_told 102 = .ok (.ireturn, 1) := by decide +kernel
theorem dX11_told_103 : decode cX11_told 103 = .ok (.bipush (-2), 2) := by decide +kernel
theorem dX11_told_105 : decode cX11_told 105 = .ok (.ireturn, 1) := by decide +kernel
theorem dX11_isWithin_0 : decode cX11_isWithin 0 = .ok (.iload_n 0, 1) := by decide +kernel
theorem dX11_isWithin_1 : decode cX11_isWithin 1 = .ok (.iload_n 1, 1) := by decide +kernel
theorem dX11_isWithin_2 : decode cX11_isWithin 2 = .ok (.if_icmp .lt 12, 3) := by decide +kernel
theorem dX11_isWithin_5 : decode cX11_isWithin 5 = .ok (.iload_n 0, 1) := by decide +kernel
theorem dX11_isWithin_6 : decode cX11_isWithin 6 = .ok (.iload_n 2, 1) := by decide +kernel
theorem dX11_isWithin_7 : decode cX11_isWithin 7 = .ok (.if_icmp .gt 7, 3) := by decide +kernel
theorem dX11_isWithin_10 : decode cX11_isWithin 10 = .ok (.iconst 1, 1) := by decide +kernel
theorem dX11_isWithin_11 : decode cX11_isWithin 11 = .ok (.goto 4, 3) := by decide +kernel
theorem dX11_isWithin_14 : decode cX11_isWithin 14 = .ok (.iconst 0, 1) := by decide +kernel
theorem dX11_isWithin_15 : decode cX11_isWithin 15 = .ok (.ireturn, 1) := by decide +kernel
theorem dX11_isSpot_0 : decode cX11_isSpot 0 = .ok (.iload_n 0, 1) := by decide +kernel
theorem dX11_isSpot_1 : decode cX11_isSpot 1 = .ok (.iconst 0, 1) := by decide +kernel
theorem dX11_isSpot_2 : decode cX11_isSpot 2 = .ok (.bipush 9, 2) := by decide +kernel
theorem dX11_isSpot_4 : decode cX11_isSpot 4 = .ok (.invokestatic 61, 3) := by decide +kernel
theorem dX11_isSpot_7 : decode cX11_isSpot 7 = .ok (.ireturn, 1) := by decide +kernel
theorem dX11_isLane_0 : decode cX11_isLane 0 = .ok (.iload_n 0, 1) := by decide +kernel
theorem dX11_isLane_1 : decode cX11_isLane 1 = .ok (.iconst 0, 1) := by decide +kernel
theorem dX11_isLane_2 : decode cX11_isLane 2 = .ok (.iconst 2, 1) := by decide +kernel
theorem dX11_isLane_3 : decode cX11_isLane 3 = .ok (.invokestatic 61, 3) := by decide +kernel
theorem dX11_isLane_6 : decode cX11_isLane 6 = .ok (.ireturn, 1) := by decide +kernel
theorem dX11_isTime_0 : decode cX11_isTime 0 = .ok (.iload_n 0, 1) := by decide +kernel
theorem dX11_isTime_1 : decode cX11_isTime 1 = .ok (.iconst 0, 1) := by decide +kernel
theorem dX11_isTime_2 : decode cX11_isTime 2 = .ok (.ldc_w 294, 3) := by decide +kernel
theorem dX11_isTime_5 : decode cX11_isTime 5 = .ok (.invokestatic 61, 3) := by decide +kernel
theorem dX11_isTime_8 : decode cX11_isTime 8 = .ok (.ireturn, 1) := by decide +kernel
theorem dX11_isSpanOfTime_0 : decode cX11_isSpanOfTime 0 = .ok (.iload_n 0, 1) := by decide +kernel
theorem dX11_isSpanOfTime_1 : decode cX11_isSpanOfTime 1 = .ok (.invokestatic 204, 3) := by decide +kernel
theorem dX11_isSpanOfTime_4 : decode cX11_isSpanOfTime 4 = .ok (.ifCond .eq 19, 3) := by decide +kernel
theorem dX11_isSpanOfTime_7 : decode cX11_isSpanOfTime 7 = .ok (.iload_n 1, 1) := by decide +kernel
theorem dX11_isSpanOfTime_8 : decode cX11_isSpanOfTime 8 = .ok (.invokestatic 204, 3) := by decide +kernel
theorem dX11_isSpanOfTime_11 : decode cX11_isSpanOfTime 11 = .ok (.ifCond .eq 12, 3) := by decide +kernel
theorem dX11_isSpanOfTime_14 : decode cX11_isSpanOfTime 14 = .ok (.iload_n 0, 1) := by decide +kernel
theorem dX11_isSpanOfTime_15 : decode cX11_isSpanOfTime 15 = .ok (.iload_n 1, 1) := by decide +kernel
theorem dX11_isSpanOfTime_16 : decode cX11_isSpanOfTime 16 = .ok (.if_icmp .ge 7, 3) := by decide +kernel
theorem dX11_isSpanOfTime_19 : decode cX11_isSpanOfTime 19 = .ok (.iconst 1, 1) := by decide +kernel
theorem dX11_isSpanOfTime_20 : decode cX11_isSpanOfTime 20 = .ok (.goto 4, 3) := by decide +kernel
theorem dX11_isSpanOfTime_23 : decode cX11_isSpanOfTime 23 = .ok (.iconst 0, 1) := by decide +kernel
theorem dX11_isSpanOfTime_24 : decode cX11_isSpanOfTime 24 = .ok (.ireturn, 1) := by decide +kernel
theorem dX11_roadOf_0 : decode cX11_roadOf 0 = .ok (.iload_n 1, 1) := by decide +kernel
theorem dX11_roadOf_1 : decode cX11_roadOf 1 = .ok (.iconst 0, 1) := by decide +kernel
theorem dX11_roadOf_2 : decode cX11_roadOf 2 = .ok (.aload_n 0, 1) := by decide +kernel
theorem dX11_roadOf_3 : decode cX11_roadOf 3 = .ok (.getfield 65, 3) := by decide +kernel
theorem dX11_roadOf_6 : decode cX11_roadOf 6 = .ok (.iconst 1, 1) := by decide +kernel
theorem dX11_roadOf_7 : decode cX11_roadOf 7 = .ok (.isub, 1) := by decide +kernel
theorem dX11_roadOf_8 : decode cX11_roadOf 8 = .ok (.invokestatic 61, 3) := by decide +kernel
theorem dX11_roadOf_11 : decode cX11_roadOf 11 = .ok (.ifCond .eq 12, 3) := by decide +kernel
theorem dX11_roadOf_14 : decode cX11_roadOf 14 = .ok (.aload_n 0, 1) := by decide +kernel
theorem dX11_roadOf_15 : decode cX11_roadOf 15 = .ok (.getfield 13, 3) := by decide +kernel
theorem dX11_roadOf_18 : decode cX11_roadOf 18 = .ok (.iload_n 1, 1) := by decide +kernel
theorem dX11_roadOf_19 : decode cX11_roadOf 19 = .ok (.aaload, 1) := by decide +kernel
theorem dX11_roadOf_20 : decode cX11_roadOf 20 = .ok (.goto 4, 3) := by decide +kernel
theorem dX11_roadOf_23 : decode cX11_roadOf 23 = .ok (.aconst_null, 1) := by decide +kernel
theorem dX11_roadOf_24 : decode cX11_roadOf 24 = .ok (.areturn, 1) := by decide +kernel
theorem dX11_controlOf_0 : decode cX11_controlOf 0 = .ok (.iload_n 1, 1) := by decide +kernel
theorem dX11_controlOf_1 : decode cX11_controlOf 1 = .ok (.iconst 0, 1) := by decide +kernel
theorem dX11_controlOf_2 : decode cX11_controlOf 2 = .ok (.aload_n 0, 1) := by decide +kernel
theorem dX11_controlOf_3 : decode cX11_controlOf 3 = .ok (.getfield 186, 3) := by decide +kernel
theorem dX11_controlOf_6 : decode cX11_controlOf 6 = .ok (.iconst 1, 1) := by decide +kernel
theorem dX11_controlOf_7 : decode cX11_controlOf 7 = .ok (.isub, 1) := by decide +kernel
theorem dX11_controlOf_8 : decode cX11_controlOf 8 = .ok (.invokestatic 61, 3) := by decide +kernel
theorem dX11_controlOf_11 : decode cX11_controlOf 11 = .ok (.ifCond .eq 12, 3) := by decide +kernel
theorem dX11_controlOf_14 : decode cX11_controlOf 14 = .ok (.aload_n 0, 1) := by decide +kernel
theorem dX11_controlOf_15 : decode cX11_controlOf 15 = .ok (.getfield 40, 3) := by decide +kernel
theorem dX11_controlOf_18 : decode cX11_controlOf 18 = .ok (.iload_n 1, 1) := by decide +kernel
theorem dX11_controlOf_19 : decode cX11_controlOf 19 = .ok (.aaload, 1) := by decide +kernel
theorem dX11_controlOf_20 : decode cX11_controlOf 20 = .ok (.goto 4, 3) := by decide +kernel
theorem dX11_controlOf_23 : decode cX11_controlOf 23 = .ok (.aconst_null, 1) := by decide +kernel
theorem dX11_controlOf_24 : decode cX11_controlOf 24 = .ok (.areturn, 1) := by decide +kernel
theorem dX11_carOf_0 : decode cX11_carOf 0 = .ok (.iload_n 1, 1) := by decide +kernel
theorem dX11_carOf_1 : decode cX11_carOf 1 = .ok (.iconst 0, 1) := by decide +kernel
theorem dX11_carOf_2 : decode cX11_carOf 2 = .ok (.aload_n 0, 1) := by decide +kernel
theorem dX11_carOf_3 : decode cX11_carOf 3 = .ok (.getfield 214, 3) := by decide +kernel
theorem dX11_carOf_6 : decode cX11_carOf 6 = .ok (.iconst 1, 1) := by decide +kernel
theorem dX11_carOf_7 : decode cX11_carOf 7 = .ok (.isub, 1) := by decide +kernel
theorem dX11_carOf_8 : decode cX11_carOf 8 = .ok (.invokestatic 61, 3) := by decide +kernel
theorem dX11_carOf_11 : decode cX11_carOf 11 = .ok (.ifCond .eq 12, 3) := by decide +kernel
theorem dX11_carOf_14 : decode cX11_carOf 14 = .ok (.aload_n 0, 1) := by decide +kernel
theorem dX11_carOf_15 : decode cX11_carOf 15 = .ok (.getfield 46, 3) := by decide +kernel
theorem dX11_carOf_18 : decode cX11_carOf 18 = .ok (.iload_n 1, 1) := by decide +kernel
theorem dX11_carOf_19 : decode cX11_carOf 19 = .ok (.aaload, 1) := by decide +kernel
theorem dX11_carOf_20 : decode cX11_carOf 20 = .ok (.goto 4, 3) := by decide +kernel
theorem dX11_carOf_23 : decode cX11_carOf 23 = .ok (.aconst_null, 1) := by decide +kernel
theorem dX11_carOf_24 : decode cX11_carOf 24 = .ok (.areturn, 1) := by decide +kernel
theorem dX11_sheetOf_0 : decode cX11_sheetOf 0 = .ok (.iload_n 1, 1) := by decide +kernel
theorem dX11_sheetOf_1 : decode cX11_sheetOf 1 = .ok (.iconst 0, 1) := by decide +kernel
theorem dX11_sheetOf_2 : decode cX11_sheetOf 2 = .ok (.iconst 3, 1) := by decide +kernel
theorem dX11_sheetOf_3 : decode cX11_sheetOf 3 = .ok (.invokestatic 61, 3) := by decide +kernel
theorem dX11_sheetOf_6 : decode cX11_sheetOf 6 = .ok (.ifCond .eq 12, 3) := by decide +kernel
theorem dX11_sheetOf_9 : decode cX11_sheetOf 9 = .ok (.aload_n 0, 1) := by decide +kernel
theorem dX11_sheetOf_10 : decode cX11_sheetOf 10 = .ok (.getfield 52, 3) := by decide +kernel
theorem dX11_sheetOf_13 : decode cX11_sheetOf 13 = .ok (.iload_n 1, 1) := by decide +kernel
theorem dX11_sheetOf_14 : decode cX11_sheetOf 14 = .ok (.aaload, 1) := by decide +kernel
theorem dX11_sheetOf_15 : decode cX11_sheetOf 15 = .ok (.goto 4, 3) := by decide +kernel
theorem dX11_sheetOf_18 : decode cX11_sheetOf 18 = .ok (.aconst_null, 1) := by decide +kernel
theorem dX11_sheetOf_19 : decode cX11_sheetOf 19 = .ok (.areturn, 1) := by decide +kernel
theorem dX11_answerOfFault_0 : decode cX11_answerOfFault 0 = .ok (.aload_n 0, 1) := by decide +kernel
theorem dX11_answerOfFault_1 : decode cX11_answerOfFault 1 = .ok (.iload_n 1, 1) := by decide +kernel
theorem dX11_answerOfFault_2 : decode cX11_answerOfFault 2 = .ok (.putfield 81, 3) := by decide +kernel
theorem dX11_answerOfFault_5 : decode cX11_answerOfFault 5 = .ok (.bipush (-10), 2) := by decide +kernel
theorem dX11_answerOfFault_7 : decode cX11_answerOfFault 7 = .ok (.iload_n 1, 1) := by decide +kernel
theorem dX11_answerOfFault_8 : decode cX11_answerOfFault 8 = .ok (.isub, 1) := by decide +kernel
theorem dX11_answerOfFault_9 : decode cX11_answerOfFault 9 = .ok (.ireturn, 1) := by decide +kernel
theorem dX11_lostByFault_0 : decode cX11_lostByFault 0 = .ok (.aload_n 0, 1) := by decide +kernel
theorem dX11_lostByFault_1 : decode cX11_lostByFault 1 = .ok (.iload_n 1, 1) := by decide +kernel
theorem dX11_lostByFault_2 : decode cX11_lostByFault 2 = .ok (.putfield 81, 3) := by decide +kernel
theorem dX11_lostByFault_5 : decode cX11_lostByFault 5 = .ok (.ldc2_w 154, 3) := by decide +kernel
theorem dX11_lostByFault_8 : decode cX11_lostByFault 8 = .ok (.lreturn, 1) := by decide +kernel
theorem dX11_leaveNumber_0 : decode cX11_leaveNumber 0 = .ok (.aload_n 0, 1) := by decide +kernel
theorem dX11_leaveNumber_1 : decode cX11_leaveNumber 1 = .ok (.bipush 31, 2) := by decide +kernel
theorem dX11_leaveNumber_3 : decode cX11_leaveNumber 3 = .ok (.aload_n 0, 1) := by decide +kernel
theorem dX11_leaveNumber_4 : decode cX11_leaveNumber 4 = .ok (.getfield 288, 3) := by decide +kernel
theorem dX11_leaveNumber_7 : decode cX11_leaveNumber 7 = .ok (.imul, 1) := by decide +kernel
theorem dX11_leaveNumber_8 : decode cX11_leaveNumber 8 = .ok (.iload_n 1, 1) := by decide +kernel
theorem dX11_leaveNumber_9 : decode cX11_leaveNumber 9 = .ok (.iadd, 1) := by decide +kernel
theorem dX11_leaveNumber_10 : decode cX11_leaveNumber 10 = .ok (.putfield 288, 3) := by decide +kernel
theorem dX11_leaveNumber_13 : decode cX11_leaveNumber 13 = .ok (.return_, 1) := by decide +kernel
theorem dX11_newRoad_0 : decode cX11_newRoad 0 = .ok (.iload_n 3, 1) := by decide +kernel
theorem dX11_newRoad_1 : decode cX11_newRoad 1 = .ok (.iconst 1, 1) := by decide +kernel
theorem dX11_newRoad_2 : decode cX11_newRoad 2 = .ok (.if_icmp .ne 14, 3) := by decide +kernel
theorem dX11_newRoad_5 : decode cX11_newRoad 5 = .ok (.new 295, 3) := by decide +kernel
theorem dX11_newRoad_8 : decode cX11_newRoad 8 = .ok (.dup, 1) := by decide +kernel
theorem dX11_newRoad_9 : decode cX11_newRoad 9 = .ok (.iload_n 0, 1) := by decide +kernel
theorem dX11_newRoad_10 : decode cX11_newRoad 10 = .ok (.iload_n 1, 1) := by decide +kernel
theorem dX11_newRoad_11 : decode cX11_newRoad 11 = .ok (.iload_n 2, 1) := by decide +kernel
theorem dX11_newRoad_12 : decode cX11_newRoad 12 = .ok (.invokespecial 297, 3) := by decide +kernel
theorem dX11_newRoad_15 : decode cX11_newRoad 15 = .ok (.areturn, 1) := by decide +kernel
theorem dX11_newRoad_16 : decode cX11_newRoad 16 = .ok (.iload_n 3, 1) := by decide +kernel
theorem dX11_newRoad_17 : decode cX11_newRoad 17 = .ok (.iconst 2, 1) := by decide +kernel
theorem dX11_newRoad_18 : decode cX11_newRoad 18 = .ok (.if_icmp .ne 14, 3) := by decide +kernel
theorem dX11_newRoad_21 : decode cX11_newRoad 21 = .ok (.new 84, 3) := by decide +kernel
theorem dX11_newRoad_24 : decode cX11_newRoad 24 = .ok (.dup, 1) := by decide +kernel
theorem dX11_newRoad_25 : decode cX11_newRoad 25 = .ok (.iload_n 0, 1) := by decide +kernel
theorem dX11_newRoad_26 : decode cX11_newRoad 26 = .ok (.iload_n 1, 1) := by decide +kernel
theorem dX11_newRoad_27 : decode cX11_newRoad 27 = .ok (.iload_n 2, 1) := by decide +kernel
theorem dX11_newRoad_28 : decode cX11_newRoad 28 = .ok (.invokespecial 300, 3) := by decide +kernel
theorem dX11_newRoad_31 : decode cX11_newRoad 31 = .ok (.areturn, 1) := by decide +kernel
theorem dX11_newRoad_32 : decode cX11_newRoad 32 = .ok (.new 11, 3) := by decide +kernel
theorem dX11_newRoad_35 : decode cX11_newRoad 35 = .ok (.dup, 1) := by decide +kernel
theorem dX11_newRoad_36 : decode cX11_newRoad 36 = .ok (.iload_n 0, 1) := by decide +kernel
theorem dX11_newRoad_37 : decode cX11_newRoad 37 = .ok (.iload_n 1, 1) := by decide +kernel
theorem dX11_newRoad_38 : decode cX11_newRoad 38 = .ok (.iload_n 2, 1) := by decide +kernel
theorem dX11_newRoad_39 : decode cX11_newRoad 39 = .ok (.iconst 0, 1) := by decide +kernel
theorem dX11_newRoad_40 : decode cX11_newRoad 40 = .ok (.invokespecial 301, 3) := by decide +kernel
theorem dX11_newRoad_43 : decode cX11_newRoad 43 = .ok (.areturn, 1) := by decide +kernel
theorem dX11_areBookSpots_0 : decode cX11_areBookSpots 0 = .ok (.iload_n 1, 1) := by decide +kernel
theorem dX11_areBookSpots_1 : decode cX11_areBookSpots 1 = .ok (.istore_n 3, 1) := by decide +kernel
theorem dX11_areBookSpots_2 : decode cX11_areBookSpots 2 = .ok (.iload_n 3, 1) := by decide +kernel
theorem dX11_areBookSpots_3 : decode cX11_areBookSpots 3 = .ok (.iload_n 1, 1) := by decide +kernel
theorem dX11_areBookSpots_4 : decode cX11_areBookSpots 4 = .ok (.iload_n 2, 1) := by decide +kernel
theorem dX11_areBookSpots_5 : decode cX11_areBookSpots 5 = .ok (.iadd, 1) := by decide +kernel
theorem dX11_areBookSpots_6 : decode cX11_areBookSpots 6 = .ok (.if_icmp .ge 36, 3) := by decide +kernel
theorem dX11_areBookSpots_9 : decode cX11_areBookSpots 9 = .ok (.aload_n 0, 1) := by decide +kernel
theorem dX11_areBookSpots_10 : decode cX11_areBookSpots 10 = .ok (.iload_n 3, 1) := by decide +kernel
theorem dX11_areBookSpots_11 : decode cX11_areBookSpots 11 = .ok (.iaload, 1) := by decide +kernel
theorem dX11_areBookSpots_12 : decode cX11_areBookSpots 12 = .ok (.invokestatic 57, 3) := by decide +kernel
theorem dX11_areBookSpots_15 : decode cX11_areBookSpots 15 = .ok (.ifCond .eq 19, 3) := by decide +kernel
theorem dX11_areBookSpots_18 : decode cX11_areBookSpots 18 = .ok (.iload_n 3, 1) := by decide +kernel
theorem dX11_areBookSpots_19 : decode cX11_areBookSpots 19 = .ok (.iload_n 1, 1) := by decide +kernel
theorem dX11_areBookSpots_20 : decode cX11_areBookSpots 20 = .ok (.if_icmp .le 16, 3) := by decide +kernel
theorem dX11_areBookSpots_23 : decode cX11_areBookSpots 23 = .ok (.aload_n 0, 1) := by decide +kernel
theorem dX11_areBookSpots_24 : decode cX11_areBookSpots 24 = .ok (.iload_n 3, 1) := by decide +kernel
theorem dX11_areBookSpots_25 : decode cX11_areBookSpots 25 = .ok (.iaload, 1) := by decide +kernel
theorem dX11_areBookSpots_26 : decode cX11_areBookSpots 26 = .ok (.aload_n 0, 1) := by decide +kernel
theorem dX11_areBookSpots_27 : decode cX11_areBookSpots 27 = .ok (.iload_n 3, 1) := by decide +kernel
theorem dX11_areBookSpots_28 : decode cX11_areBookSpots 28 = .ok (.iconst 1, 1) := by decide +kernel
theorem dX11_areBookSpots_29 : decode cX11_areBookSpots 29 = .ok (.isub, 1) := by decide +kernel
theorem dX11_areBookSpots_30 : decode cX11_areBookSpots 30 = .ok (.iaload, 1) := by decide +kernel
theorem dX11_areBookSpots_31 : decode cX11_areBookSpots 31 = .ok (.if_icmp .ne 5, 3) := by decide +kernel
theorem dX11_areBookSpots_34 : decode cX11_areBookSpots 34 = .ok (.iconst 0, 1) := by decide +kernel
theorem dX11_areBookSpots_35 : decode cX11_areBookSpots 35 = .ok (.ireturn, 1) := by decide +kernel
theorem dX11_areBookSpots_36 : decode cX11_areBookSpots 36 = .ok (.iinc 3 1, 3) := by decide +kernel
theorem dX11_areBookSpots_39 : decode cX11_areBookSpots 39 = .ok (.goto (-37), 3) := by decide +kernel
theorem dX11_areBookSpots_42 : decode cX11_areBookSpots 42 = .ok (.iconst 1, 1) := by decide +kernel
theorem dX11_areBookSpots_43 : decode cX11_areBookSpots 43 = .ok (.ireturn, 1) := by decide +kernel
theorem dX11_searchTheMap_0 : decode cX11_searchTheMap 0 = .ok (.aload_n 0, 1) := by decide +kernel
theorem dX11_searchTheMap_1 : decode cX11_searchTheMap 1 = .ok (.getfield 27, 3) := by decide +kernel
theorem dX11_searchTheMap_4 : decode cX11_searchTheMap 4 = .ok (.aload_n 0, 1) := by decide +kernel
theorem dX11_searchTheMap_5 : decode cX11_searchTheMap 5 = .ok (.getfield 13, 3) := by decide +kernel
theorem dX11_searchTheMap_8 : decode cX11_searchTheMap 8 = .ok (.aload_n 0, 1) := by decide +kernel
theorem dX11_searchTheMap_9 : decode cX11_searchTheMap 9 = .ok (.getfield 65, 3) := by decide +kernel
theorem dX11_searchTheMap_12 : decode cX11_searchTheMap 12 = .ok (.aload_n 0, 1) := by decide +kernel
theorem dX11_searchTheMap_13 : decode cX11_searchTheMap 13 = .ok (.getfield 20, 3) := by decide +kernel
theorem dX11_searchTheMap_16 : decode cX11_searchTheMap 16 = .ok (.invokevirtual 303, 3) := by decide +kernel
theorem dX11_searchTheMap_19 : decode cX11_searchTheMap 19 = .ok (.aload_n 0, 1) := by decide +kernel
theorem dX11_searchTheMap_20 : decode cX11_searchTheMap 20 = .ok (.getfield 27, 3) := by decide +kernel
theorem dX11_searchTheMap_23 : decode cX11_searchTheMap 23 = .ok (.aload_n 0, 1) := by decide +kernel
theorem dX11_searchTheMap_24 : decode cX11_searchTheMap 24 = .ok (.getfield 20, 3) := by decide +kernel
theorem dX11_searchTheMap_27 : decode cX11_searchTheMap 27 = .ok (.getfield 306, 3) := by decide +kernel
theorem dX11_searchTheMap_30 : decode cX11_searchTheMap 30 = .ok (.iconst 0, 1) := by decide +kernel
theorem dX11_searchTheMap_31 : decode cX11_searchTheMap 31 = .ok (.iaload, 1) := by decide +kernel
theorem dX11_searchTheMap_32 : decode cX11_searchTheMap 32 = .ok (.iconst 0, 1) := by decide +kernel
theorem dX11_searchTheMap_33 : decode cX11_searchTheMap 33 = .ok (.iconst 0, 1) := by decide +kernel
theorem dX11_searchTheMap_34 : decode cX11_searchTheMap 34 = .ok (.iconst 1, 1) := by decide +kernel
theorem dX11_searchTheMap_35 : decode cX11_searchTheMap 35 = .ok (.invokestatic 309, 3) := by decide +kernel
theorem dX11_searchTheMap_38 : decode cX11_searchTheMap 38 = .ok (.return_, 1) := by decide +kernel
theorem dX11_goOn_0 : decode cX11_goOn 0 = .ok (.iload_n 2, 1) := by decide +kernel
theorem dX11_goOn_1 : decode cX11_goOn 1 = .ok (.bipush 10, 2) := by decide +kernel
theorem dX11_goOn_3 : decode cX11_goOn 3 = .ok (.if_icmp .lt 4, 3) := by decide +kernel
theorem dX11_goOn_6 : decode cX11_goOn 6 = .ok (.return_, 1) := by decide +kernel
theorem dX11_goOn_7 : decode cX11_goOn 7 = .ok (.iconst 0, 1) := by decide +kernel
theorem dX11_goOn_8 : decode cX11_goOn 8 = .ok (.istore 5, 2) := by decide +kernel
theorem dX11_goOn_10 : decode cX11_goOn 10 = .ok (.iload 5, 2) := by decide +kernel
theorem dX11_goOn_12 : decode cX11_goOn 12 = .ok (.aload_n 0, 1) := by decide +kernel
theorem dX11_goOn_13 : decode cX11_goOn 13 = .ok (.getfield 313, 3) := by decide +kernel
theorem dX11_goOn_16 : decode cX11_goOn 16 = .ok (.iload_n 1, 1) := by decide +kernel
theorem dX11_goOn_17 : decode cX11_goOn 17 = .ok (.iaload, 1) := by decide +kernel
theorem dX11_goOn_18 : decode cX11_goOn 18 = .ok (.if_icmp .ge 187, 3) := by decide +kernel
theorem dX11_goOn_21 : decode cX11_goOn 21 = .ok (.iload_n 1, 1) := by decide +kernel
theorem dX11_goOn_22 : decode cX11_goOn 22 = .ok (.bipush 16, 2) := by decide +kernel
theorem dX11_goOn_24 : decode cX11_goOn 24 = .ok (.imul, 1) := by decide +kernel
theorem dX11_goOn_25 : decode cX11_goOn 25 = .ok (.iload 5, 2) := by decide +kernel
theorem dX11_goOn_27 : decode cX11_goOn 27 = .ok (.iadd, 1) := by decide +kernel
theorem dX11_goOn_28 : decode cX11_goOn 28 = .ok (.istore 6, 2) := by decide +kernel
theorem dX11_goOn_30 : decode cX11_goOn 30 = .ok (.aload_n 0, 1) := by decide +kernel
theorem dX11_goOn_31 : decode cX11_goOn 31 = .ok (.getfield 316, 3) := by decide +kernel
theorem dX11_goOn_34 : decode cX11_goOn 34 = .ok (.iload 6, 2) := by decide +kernel
theorem dX11_goOn_36 : decode cX11_goOn 36 = .ok (.iaload, 1) := by decide +kernel
theorem dX11_goOn_37 : decode cX11_goOn 37 = .ok (.istore 7, 2) := by decide +kernel
theorem dX11_goOn_39 : decode cX11_goOn 39 = .ok (.iload_n 3, 1) := by decide +kernel
theorem dX11_goOn_40 : decode cX11_goOn 40 = .ok (.aload_n 0, 1) := by decide +kernel
theorem dX11_goOn_41 : decode cX11_goOn 41 = .ok (.getfield 319, 3) := by decide +kernel
theorem dX11_goOn_44 : decode cX11_goOn 44 = .ok (.iload 6, 2) := by decide +kernel
theorem dX11_goOn_46 : decode cX11_goOn 46 = .ok (.iaload, 1) := by decide +kernel
theorem dX11_goOn_47 : decode cX11_goOn 47 = .ok (.iadd, 1) := by decide +kernel
theorem dX11_goOn_48 : decode cX11_goOn 48 = .ok (.istore 8, 2) := by decide +kernel
theorem dX11_goOn_50 : decode cX11_goOn 50 = .ok (.aload_n 0, 1) := by decide +kernel
theorem dX11_goOn_51 : decode cX11_goOn 51 = .ok (.iload 7, 2) := by decide +kernel
theorem dX11_goOn_53 : decode cX11_goOn 53 = .ok (.invokevirtual 322, 3) := by decide +kernel
theorem dX11_goOn_56 : decode cX11_goOn 56 = .ok (.ifCond .ne 143, 3) := by decide +kernel
theorem dX11_goOn_59 : decode cX11_goOn 59 = .ok (.aload_n 0, 1) := by decide +kernel
theorem dX11_goOn_60 : decode cX11_goOn 60 = .ok (.iload 8, 2) := by decide +kernel
theorem dX11_goOn_62 : decode cX11_goOn 62 = .ok (.invokevirtual 325, 3) := by decide +kernel
theorem dX11_goOn_65 : decode cX11_goOn 65 = .ok (.ifCond .eq 6, 3) := by decide +kernel
theorem dX11_goOn_68 : decode cX11_goOn 68 = .ok (.goto 131, 3) := by decide +kernel
theorem dX11_goOn_71 : decode cX11_goOn 71 = .ok (.aload_n 0, 1) := by decide +kernel
theorem dX11_goOn_72 : decode cX11_goOn 72 = .ok (.getfield 291, 3) := by decide +kernel
theorem dX11_goOn_75 : decode cX11_goOn 75 = .ok (.ldc_w 328, 3) := by decide +kernel
theorem dX11_goOn_78 : decode cX11_goOn 78 = .ok (.if_icmp .lt 9, 3) := by decide +kernel
theorem dX11_goOn_81 : decode cX11_goOn 81 = .ok (.aload_n 0, 1) := by decide +kernel
theorem dX11_goOn_82 : decode cX11_goOn 82 = .ok (.iconst 1, 1) := by decide +kernel
theorem dX11_goOn_83 : decode cX11_goOn 83 = .ok (.putfield 141, 3) := by decide +kernel
theorem dX11_goOn_86 : decode cX11_goOn 86 = .ok (.return_, 1) := by decide +kernel
theorem dX11_goOn_87 : decode cX11_goOn 87 = .ok (.aload_n 0, 1) := by decide +kernel
theorem dX11_goOn_88 : decode cX11_goOn 88 = .ok (.dup, 1) := by decide +kernel
theorem dX11_goOn_89 : decode cX11_goOn 89 = .ok (.getfield 291, 3) := by decide +kernel
theorem dX11_goOn_92 : decode cX11_goOn 92 = .ok (.iconst 1, 1) := by decide +kernel
theorem dX11_goOn_93 : decode cX11_goOn 93 = .ok (.iadd, 1) := by decide +kernel
theorem dX11_goOn_94 : decode cX11_goOn 94 = .ok (.putfield 291, 3) := by decide +kernel
theorem dX11_goOn_97 : decode cX11_goOn 97 = .ok (.aload_n 0, 1) := by decide +kernel
theorem dX11_goOn_98 : decode cX11_goOn 98 = .ok (.getfield 329, 3) := by decide +kernel
theorem dX11_goOn_101 : decode cX11_goOn 101 = .ok (.iload_n 2, 1) := by decide +kernel
theorem dX11_goOn_102 : decode cX11_goOn 102 = .ok (.iload 7, 2) := by decide +kernel
theorem dX11_goOn_104 : decode cX11_goOn 104 = .ok (.iastore, 1) := by decide +kernel
theorem dX11_goOn_105 : decode cX11_goOn 105 = .ok (.aload_n 0, 1) := by decide +kernel
theorem dX11_goOn_106 : decode cX11_goOn 106 = .ok (.getfield 330, 3) := by decide +kernel
theorem dX11_goOn_109 : decode cX11_goOn 109 = .ok (.iload 6, 2) := by decide +kernel
theorem dX11_goOn_111 : decode cX11_goOn 111 = .ok (.iaload, 1) := by decide +kernel
theorem dX11_goOn_112 : decode cX11_goOn 112 = .ok (.istore 9, 2) := by decide +kernel
theorem dX11_goOn_114 : decode cX11_goOn 114 = .ok (.aload_n 0, 1) := by decide +kernel
theorem dX11_goOn_115 : decode cX11_goOn 115 = .ok (.getfield 333, 3) := by decide +kernel
theorem dX11_goOn_118 : decode cX11_goOn 118 = .ok (.iload 4, 2) := by decide +kernel
theorem dX11_goOn_120 : decode cX11_goOn 120 = .ok (.iload 9, 2) := by decide +kernel
theorem dX11_goOn_122 : decode cX11_goOn 122 = .ok (.invokevirtual 336, 3) := by decide +kernel
theorem dX11_goOn_125 : decode cX11_goOn 125 = .ok (.istore 10, 2) := by decide +kernel
theorem dX11_goOn_127 : decode cX11_goOn 127 = .ok (.aload_n 0, 1) := by decide +kernel
theorem dX11_goOn_128 : decode cX11_goOn 128 = .ok (.getfield 333, 3) := by decide +kernel
theorem dX11_goOn_131 : decode cX11_goOn 131 = .ok (.iload 10, 2) := by decide +kernel
theorem dX11_goOn_133 : decode cX11_goOn 133 = .ok (.iload 9, 2) := by decide +kernel
theorem dX11_goOn_135 : decode cX11_goOn 135 = .ok (.invokevirtual 339, 3) := by decide +kernel
theorem dX11_goOn_138 : decode cX11_goOn 138 = .ok (.ifCond .eq 12, 3) := by decide +kernel
theorem dX11_goOn_141 : decode cX11_goOn 141 = .ok (.aload_n 0, 1) := by decide +kernel
theorem dX11_goOn_142 : decode cX11_goOn 142 = .ok (.iload_n 2, 1) := by decide +kernel
theorem dX11_goOn_143 : decode cX11_goOn 143 = .ok (.iconst 1, 1) := by decide +kernel
theorem dX11_goOn_144 : decode cX11_goOn 144 = .ok (.iadd, 1) := by decide +kernel
theorem dX11_goOn_145 : decode cX11_goOn 145 = .ok (.iload 8, 2) := by decide +kernel
theorem dX11_goOn_147 : decode cX11_goOn 147 = .ok (.invokevirtual 342, 3) := by decide +kernel
theorem dX11_goOn_150 : decode cX11_goOn 150 = .ok (.aload_n 0, 1) := by decide +kernel
theorem dX11_goOn_151 : decode cX11_goOn 151 = .ok (.dup, 1) := by decide +kernel
theorem dX11_goOn_152 : decode cX11_goOn 152 = .ok (.getfield 345, 3) := by decide +kernel
theorem dX11_goOn_155 : decode cX11_goOn 155 = .ok (.iconst 1, 1) := by decide +kernel
theorem dX11_goOn_156 : decode cX11_goOn 156 = .ok (.iload 7, 2) := by decide +kernel
theorem dX11_goOn_158 : decode cX11_goOn 158 = .ok (.ishl, 1) := by decide +kernel
theorem dX11_goOn_159 : decode cX11_goOn 159 = .ok (.ior, 1) := by decide +kernel
theorem dX11_goOn_160 : decode cX11_goOn 160 = .ok (.putfield 345, 3) := by decide +kernel
theorem dX11_goOn_163 : decode cX11_goOn 163 = .ok (.aload_n 0, 1) := by decide +kernel
theorem dX11_goOn_164 : decode cX11_goOn 164 = .ok (.iload 9, 2) := by decide +kernel
theorem dX11_goOn_166 : decode cX11_goOn 166 = .ok (.iload_n 2, 1) := by decide +kernel
theorem dX11_goOn_167 : decode cX11_goOn 167 = .ok (.iconst 1, 1) := by decide +kernel
theorem dX11_goOn_168 : decode cX11_goOn 168 = .ok (.iadd, 1) := by decide +kernel
theorem dX11_goOn_169 : decode cX11_goOn 169 = .ok (.iload 8, 2) := by decide +kernel
theorem dX11_goOn_171 : decode cX11_goOn 171 = .ok (.iload 10, 2) := by decide +kernel
theorem dX11_goOn_173 : decode cX11_goOn 173 = .ok (.invokestatic 309, 3) := by decide +kernel
theorem dX11_goOn_176 : decode cX11_goOn 176 = .ok (.aload_n 0, 1) := by decide +kernel
theorem dX11_goOn_177 : decode cX11_goOn 177 = .ok (.dup, 1) := by decide +kernel
theorem dX11_goOn_178 : decode cX11_goOn 178 = .ok (.getfield 345, 3) := by decide +kernel
theorem dX11_goOn_181 : decode cX11_goOn 181 = .ok (.iconst 1, 1) := by decide +kernel
theorem dX11_goOn_182 : decode cX11_goOn 182 = .ok (.iload 7, 2) := by decide +kernel
theorem dX11_goOn_184 : decode cX11_goOn 184 = .ok (.ishl, 1) := by decide +kernel
theorem dX11_goOn_185 : decode cX11_goOn 185 = .ok (.iconst (-1), 1) := by decide +kernel
theorem dX11_goOn_186 : decode cX11_goOn 186 = .ok (.ixor, 1) := by decide +kernel
theorem dX11_goOn_187 : decode cX11_goOn 187 = .ok (.iand, 1) := by decide +kernel
theorem dX11_goOn_188 : decode cX11_goOn 188 = .ok (.putfield 345, 3) := by decide +kernel
theorem dX11_goOn_191 : decode cX11_goOn 191 = .ok (.aload_n 0, 1) := by decide +kernel
theorem dX11_goOn_192 : decode cX11_goOn 192 = .ok (.getfield 141, 3) := by decide +kernel
theorem dX11_goOn_195 : decode cX11_goOn 195 = .ok (.ifCond .eq 4, 3) := by decide +kernel
theorem dX11_goOn_198 : decode cX11_goOn 198 = .ok (.return_, 1) := by decide +kernel
theorem dX11_goOn_199 : decode cX11_goOn 199 = .ok (.iinc 5 1, 3) := by decide +kernel
theorem dX11_goOn_202 : decode cX11_goOn 202 = .ok (.goto (-192), 3) := by decide +kernel
theorem dX11_goOn_205 : decode cX11_goOn 205 = .ok (.return_, 1) := by decide +kernel
theorem dX11_layTheBest_0 : decode cX11_layTheBest 0 = .ok (.aload_n 0, 1) := by decide +kernel
theorem dX11_layTheBest_1 : decode cX11_layTheBest 1 = .ok (.getfield 34, 3) := by decide +kernel
theorem dX11_layTheBest_4 : decode cX11_layTheBest 4 = .ok (.invokevirtual 348, 3) := by decide +kernel
theorem dX11_layTheBest_7 : decode cX11_layTheBest 7 = .ok (.iconst 0, 1) := by decide +kernel
theorem dX11_layTheBest_8 : decode cX11_layTheBest 8 = .ok (.istore_n 1, 1) := by decide +kernel
theorem dX11_layTheBest_9 : decode cX11_layTheBest 9 = .ok (.iload_n 1, 1) := by decide +kernel
theorem dX11_layTheBest_10 : decode cX11_layTheBest 10 = .ok (.aload_n 0, 1) := by decide +kernel
theorem dX11_layTheBest_11 : decode cX11_layTheBest 11 = .ok (.getfield 27, 3) := by decide +kernel
theorem dX11_layTheBest_14 : decode cX11_layTheBest 14 = .ok (.getfield 350, 3) := by decide +kernel
theorem dX11_layTheBest_17 : decode cX11_layTheBest 17 = .ok (.if_icmp .ge 47, 3) := by decide +kernel
theorem dX11_layTheBest_20 : decode cX11_layTheBest 20 = .ok (.aload_n 0, 1) := by decide +kernel
theorem dX11_layTheBest_21 : decode cX11_layTheBest 21 = .ok (.aload_n 0, 1) := by decide +kernel
theorem dX11_layTheBest_22 : decode cX11_layTheBest 22 = .ok (.getfield 27, 3) := by decide +kernel
theorem dX11_layTheBest_25 : decode cX11_layTheBest 25 = .ok (.getfield 353, 3) := by decide +kernel
theorem dX11_layTheBest_28 : decode cX11_layTheBest 28 = .ok (.iload_n 1, 1) := by decide +kernel
theorem dX11_layTheBest_29 : decode cX11_layTheBest 29 = .ok (.iaload, 1) := by decide +kernel
theorem dX11_layTheBest_30 : decode cX11_layTheBest 30 = .ok (.invokevirtual 73, 3) := by decide +kernel
theorem dX11_layTheBest_33 : decode cX11_layTheBest 33 = .ok (.astore_n 2, 1) := by decide +kernel
theorem dX11_layTheBest_34 : decode cX11_layTheBest 34 = .ok (.aload_n 2, 1) := by decide +kernel
theorem dX11_layTheBest_35 : decode cX11_layTheBest 35 = .ok (.ifnull 23, 3) := by decide +kernel
theorem dX11_layTheBest_38 : decode cX11_layTheBest 38 = .ok (.aload_n 0, 1) := by decide +kernel
theorem dX11_layTheBest_39 : decode cX11_layTheBest 39 = .ok (.getfield 34, 3) := by decide +kernel
theorem dX11_layTheBest_42 : decode cX11_layTheBest 42 = .ok (.aload_n 0, 1) := by decide +kernel
theorem dX11_layTheBest_43 : decode cX11_layTheBest 43 = .ok (.getfield 27, 3) := by decide +kernel
theorem dX11_layTheBest_46 : decode cX11_layTheBest 46 = .ok (.getfield 353, 3) := by decide +kernel
theorem dX11_layTheBest_49 : decode cX11_layTheBest 49 = .ok (.iload_n 1, 1) := by decide +kernel
theorem dX11_layTheBest_50 : decode cX11_layTheBest 50 = .ok (.iaload, 1) := by decide +kernel
theorem dX11_layTheBest_51 : decode cX11_layTheBest 51 = .ok (.aload_n 2, 1) := by decide +kernel
theorem dX11_layTheBest_52 : decode cX11_layTheBest 52 = .ok (.getfield 99, 3) := by decide +kernel
theorem dX11_layTheBest_55 : decode cX11_layTheBest 55 = .ok (.invokevirtual 356, 3) := by decide +kernel
theorem dX11_layTheBest_58 : decode cX11_layTheBest 58 = .ok (.iinc 1 1, 3) := by decide +kernel
theorem dX11_layTheBest_61 : decode cX11_layTheBest 61 = .ok (.goto (-52), 3) := by decide +kernel
theorem dX11_layTheBest_64 : decode cX11_layTheBest 64 = .ok (.aload_n 0, 1) := by decide +kernel
theorem dX11_layTheBest_65 : decode cX11_layTheBest 65 = .ok (.iconst 0, 1) := by decide +kernel
theorem dX11_layTheBest_66 : decode cX11_layTheBest 66 = .ok (.putfield 186, 3) := by decide +kernel
theorem dX11_layTheBest_69 : decode cX11_layTheBest 69 = .ok (.iconst 0, 1) := by decide +kernel
theorem dX11_layTheBest_70 : decode cX11_layTheBest 70 = .ok (.istore_n 1, 1) := by decide +kernel
theorem dX11_layTheBest_71 : decode cX11_layTheBest 71 = .ok (.iload_n 1, 1) := by decide +kernel
theorem dX11_layTheBest_72 : decode cX11_layTheBest 72 = .ok (.aload_n 0, 1) := by decide +kernel
theorem dX11_layTheBest_73 : decode cX11_layTheBest 73 = .ok (.getfield 214, 3) := by decide +kernel
theorem dX11_layTheBest_76 : decode cX11_layTheBest 76 = .ok (.if_icmp .ge 18, 3) := by decide +kernel
theorem dX11_layTheBest_79 : decode cX11_layTheBest 79 = .ok (.aload_n 0, 1) := by decide +kernel
theorem dX11_layTheBest_80 : decode cX11_layTheBest 80 = .ok (.getfield 46, 3) := by decide +kernel
theorem dX11_layTheBest_83 : decode cX11_layTheBest 83 = .ok (.iload_n 1, 1) := by decide +kernel
theorem dX11_layTheBest_84 : decode cX11_layTheBest 84 = .ok (.aaload, 1) := by decide +kernel
theorem dX11_layTheBest_85 : decode cX11_layTheBest 85 = .ok (.invokevirtual 359, 3) := by decide +kernel
theorem dX11_layTheBest_88 : decode cX11_layTheBest 88 = .ok (.iinc 1 1, 3) := by decide +kernel
theorem dX11_layTheBest_91 : decode cX11_layTheBest 91 = .ok (.goto (-20), 3) := by decide +kernel
theorem dX11_layTheBest_94 : decode cX11_layTheBest 94 = .ok (.return_, 1) := by decide +kernel
theorem dX11_proofOfRow_0 : decode cX11_proofOfRow 0 = .ok (.aload_n 0, 1) := by decide +kernel
theorem dX11_proofOfRow_1 : decode cX11_proofOfRow 1 = .ok (.getfield 20, 3) := by decide +kernel
theorem dX11_proofOfRow_4 : decode cX11_proofOfRow 4 = .ok (.getfield 306, 3) := by decide +kernel
theorem dX11_proofOfRow_7 : decode cX11_proofOfRow 7 = .ok (.iconst 0, 1) := by decide +kernel
theorem dX11_proofOfRow_8 : decode cX11_proofOfRow 8 = .ok (.iaload, 1) := by decide +kernel
theorem dX11_proofOfRow_9 : decode cX11_proofOfRow 9 = .ok (.istore 4, 2) := by decide +kernel
theorem dX11_proofOfRow_11 : decode cX11_proofOfRow 11 = .ok (.iconst 1, 1) := by decide +kernel
theorem dX11_proofOfRow_12 : decode cX11_proofOfRow 12 = .ok (.istore 5, 2) := by decide +kernel
theorem dX11_proofOfRow_14 : decode cX11_proofOfRow 14 = .ok (.iconst 0, 1) := by decide +kernel
theorem dX11_proofOfRow_15 : decode cX11_proofOfRow 15 = .ok (.istore 6, 2) := by decide +kernel
theorem dX11_proofOfRow_17 : decode cX11_proofOfRow 17 = .ok (.lconst 0, 1) := by decide +kernel
theorem dX11_proofOfRow_18 : decode cX11_proofOfRow 18 = .ok (.lstore 7, 2) := by decide +kernel
theorem dX11_proofOfRow_20 : decode cX11_proofOfRow 20 = .ok (.iconst 0, 1) := by decide +kernel
theorem dX11_proofOfRow_21 : decode cX11_proofOfRow 21 = .ok (.istore 9, 2) := by decide +kernel
theorem dX11_proofOfRow_23 : decode cX11_proofOfRow 23 = .ok (.iload 9, 2) := by decide +kernel
theorem dX11_proofOfRow_25 : decode cX11_proofOfRow 25 = .ok (.iload_n 3, 1) := by decide +kernel
theorem dX11_proofOfRow_26 : decode cX11_proofOfRow 26 = .ok (.if_icmp .ge 109, 3) := by decide +kernel
theorem dX11_proofOfRow_29 : decode cX11_proofOfRow 29 = .ok (.aload_n 1, 1) := by decide +kernel
theorem dX11_proofOfRow_30 : decode cX11_proofOfRow 30 = .ok (.iload_n 2, 1) := by decide +kernel
theorem dX11_proofOfRow_31 : decode cX11_proofOfRow 31 = .ok (.iload 9, 2) := by decide +kernel
theorem dX11_proofOfRow_33 : decode cX11_proofOfRow 33 = .ok (.iadd, 1) := by decide +kernel
theorem dX11_proofOfRow_34 : decode cX11_proofOfRow 34 = .ok (.iaload, 1) := by decide +kernel
theorem dX11_proofOfRow_35 : decode cX11_proofOfRow 35 = .ok (.istore 10, 2) := by decide +kernel
theorem dX11_proofOfRow_37 : decode cX11_proofOfRow 37 = .ok (.aload_n 0, 1) := by decide +kernel
theorem dX11_proofOfRow_38 : decode cX11_proofOfRow 38 = .ok (.iload 10, 2) := by decide +kernel
theorem dX11_proofOfRow_40 : decode cX11_proofOfRow 40 = .ok (.invokevirtual 73, 3) := by decide +kernel
theorem dX11_proofOfRow_43 : decode cX11_proofOfRow 43 = .ok (.astore 11, 2) := by decide +kernel
theorem dX11_proofOfRow_45 : decode cX11_proofOfRow 45 = .ok (.aload 11, 2) := by decide +kernel
theorem dX11_proofOfRow_47 : decode cX11_proofOfRow 47 = .ok (.ifnonnull 8, 3) := by decide +kernel
theorem dX11_proofOfRow_50 : decode cX11_proofOfRow 50 = .ok (.bipush (-9), 2) := by decide +kernel
theorem dX11_proofOfRow_52 : decode cX11_proofOfRow 52 = .ok (.goto 10, 3) := by decide +kernel
theorem dX11_proofOfRow_55 : decode cX11_proofOfRow 55 = .ok (.aload 11, 2) := by decide +kernel
theorem dX11_proofOfRow_57 : decode cX11_proofOfRow 57 = .ok (.iload 4, 2) := by decide +kernel
theorem dX11_proofOfRow_59 : decode cX11_proofOfRow 59 = .ok (.invokevirtual 362, 3) := by decide +kernel
theorem dX11_proofOfRow_62 : decode cX11_proofOfRow 62 = .ok (.istore 12, 2) := by decide +kernel
theorem dX11_proofOfRow_64 : decode cX11_proofOfRow 64 = .ok (.aload 11, 2) := by decide +kernel
theorem dX11_proofOfRow_66 : decode cX11_proofOfRow 66 = .ok (.ifnull 20, 3) := by decide +kernel
theorem dX11_proofOfRow_69 : decode cX11_proofOfRow 69 = .ok (.iload 12, 2) := by decide +kernel
theorem dX11_proofOfRow_71 : decode cX11_proofOfRow 71 = .ok (.bipush (-9), 2) := by decide +kernel
theorem dX11_proofOfRow_73 : decode cX11_proofOfRow 73 = .ok (.if_icmp .eq 13, 3) := by decide +kernel
theorem dX11_proofOfRow_76 : decode cX11_proofOfRow 76 = .ok (.iload 6, 2) := by decide +kernel
theorem dX11_proofOfRow_78 : decode cX11_proofOfRow 78 = .ok (.iload 10, 2) := by decide +kernel
theorem dX11_proofOfRow_80 : decode cX11_proofOfRow 80 = .ok (.ishr, 1) := by decide +kernel
theorem dX11_proofOfRow_81 : decode cX11_proofOfRow 81 = .ok (.iconst 1, 1) := by decide +kernel
theorem dX11_proofOfRow_82 : decode cX11_proofOfRow 82 = .ok (.iand, 1) := by decide +kernel
theorem dX11_proofOfRow_83 : decode cX11_proofOfRow 83 = .ok (.ifCond .eq 9, 3) := by decide +kernel
theorem dX11_proofOfRow_86 : decode cX11_proofOfRow 86 = .ok (.iconst (-1), 1) := by decide +kernel
theorem dX11_proofOfRow_87 : decode cX11_proofOfRow 87 = .ok (.iload 9, 2) := by decide +kernel
theorem dX11_proofOfRow_89 : decode cX11_proofOfRow 89 = .ok (.isub, 1) := by decide +kernel
theorem dX11_proofOfRow_90 : decode cX11_proofOfRow 90 = .ok (.i2l, 1) := by decide +kernel
theorem dX11_proofOfRow_91 : decode cX11_proofOfRow 91 = .ok (.lreturn, 1) := by decide +kernel
theorem dX11_proofOfRow_92 : decode cX11_proofOfRow 92 = .ok (.iload 6, 2) := by decide +kernel
theorem dX11_proofOfRow_94 : decode cX11_proofOfRow 94 = .ok (.iconst 1, 1) := by decide +kernel
theorem dX11_proofOfRow_95 : decode cX11_proofOfRow 95 = .ok (.iload 10, 2) := by decide +kernel
theorem dX11_proofOfRow_97 : decode cX11_proofOfRow 97 = .ok (.ishl, 1) := by decide +kernel
theorem dX11_proofOfRow_98 : decode cX11_proofOfRow 98 = .ok (.ior, 1) := by decide +kernel
theorem dX11_proofOfRow_99 : decode cX11_proofOfRow 99 = .ok (.istore 6, 2) := by decide +kernel
theorem dX11_proofOfRow_101 : decode cX11_proofOfRow 101 = .ok (.lload 7, 2) := by decide +kernel
theorem dX11_proofOfRow_103 : decode cX11_proofOfRow 103 = .ok (.aload 11, 2) := by decide +kernel
theorem dX11_proofOfRow_105 : decode cX11_proofOfRow 105 = .ok (.getfield 99, 3) := by decide +kernel
theorem dX11_proofOfRow_108 : decode cX11_proofOfRow 108 = .ok (.i2l, 1) := by decide +kernel
theorem dX11_proofOfRow_109 : decode cX11_proofOfRow 109 = .ok (.ladd, 1) := by decide +kernel
theorem dX11_proofOfRow_110 : decode cX11_proofOfRow 110 = .ok (.lstore 7, 2) := by decide +kernel
theorem dX11_proofOfRow_112 : decode cX11_proofOfRow 112 = .ok (.iload 12, 2) := by decide +kernel
theorem dX11_proofOfRow_114 : decode cX11_proofOfRow 114 = .ok (.istore 4, 2) := by decide +kernel
theorem dX11_proofOfRow_116 : decode cX11_proofOfRow 116 = .ok (.aload_n 0, 1) := by decide +kernel
theorem dX11_proofOfRow_117 : decode cX11_proofOfRow 117 = .ok (.getfield 20, 3) := by decide +kernel
theorem dX11_proofOfRow_120 : decode cX11_proofOfRow 120 = .ok (.iload 5, 2) := by decide +kernel
theorem dX11_proofOfRow_122 : decode cX11_proofOfRow 122 = .ok (.iload 12, 2) := by decide +kernel
theorem dX11_proofOfRow_124 : decode cX11_proofOfRow 124 = .ok (.invokevirtual 336, 3) := by decide +kernel
theorem dX11_proofOfRow_127 : decode cX11_proofOfRow 127 = .ok (.istore 5, 2) := by decide +kernel
theorem dX11_proofOfRow_129 : decode cX11_proofOfRow 129 = .ok (.iinc 9 1, 3) := by decide +kernel
theorem dX11_proofOfRow_132 : decode cX11_proofOfRow 132 = .ok (.goto (-109), 3) := by decide +kernel
theorem dX11_proofOfRow_135 : decode cX11_proofOfRow 135 = .ok (.iload_n 3, 1) := by decide +kernel
theorem dX11_proofOfRow_136 : decode cX11_proofOfRow 136 = .ok (.bipush 10, 2) := by decide +kernel
theorem dX11_proofOfRow_138 : decode cX11_proofOfRow 138 = .ok (.if_icmp .gt 22, 3) := by decide +kernel
theorem dX11_proofOfRow_141 : decode cX11_proofOfRow 141 = .ok (.aload_n 0, 1) := by decide +kernel
theorem dX11_proofOfRow_142 : decode cX11_proofOfRow 142 = .ok (.getfield 20, 3) := by decide +kernel
theorem dX11_proofOfRow_145 : decode cX11_proofOfRow 145 = .ok (.iload 5, 2) := by decide +kernel
theorem dX11_proofOfRow_147 : decode cX11_proofOfRow 147 = .ok (.iload 4, 2) := by decide +kernel
theorem dX11_proofOfRow_149 : decode cX11_proofOfRow 149 = .ok (.invokevirtual 339, 3) := by decide +kernel
theorem dX11_proofOfRow_152 : decode cX11_proofOfRow 152 = .ok (.ifCond .eq 8, 3) := by decide +kernel
theorem dX11_proofOfRow_155 : decode cX11_proofOfRow 155 = .ok (.lload 7, 2) := by decide +kernel
theorem dX11_proofOfRow_157 : decode cX11_proofOfRow 157 = .ok (.goto 6, 3) := by decide +kernel
theorem dX11_proofOfRow_160 : decode cX11_proofOfRow 160 = .ok (.ldc2_w 365, 3) := by decide +kernel
theorem dX11_proofOfRow_163 : decode cX11_proofOfRow 163 = .ok (.lreturn, 1) := by decide +kernel
theorem dX11_isControlAt_0 : decode cX11_isControlAt 0 = .ok (.iconst 0, 1) := by decide +kernel
theorem dX11_isControlAt_1 : decode cX11_isControlAt 1 = .ok (.istore_n 2, 1) := by decide +kernel
theorem dX11_isControlAt_2 : decode cX11_isControlAt 2 = .ok (.iload_n 2, 1) := by decide +kernel
theorem dX11_isControlAt_3 : decode cX11_isControlAt 3 = .ok (.aload_n 0, 1) := by decide +kernel
theorem dX11_isControlAt_4 : decode cX11_isControlAt 4 = .ok (.getfield 186, 3) := by decide +kernel
theorem dX11_isControlAt_7 : decode cX11_isControlAt 7 = .ok (.if_icmp .ge 24, 3) := by decide +kernel
theorem dX11_isControlAt_10 : decode cX11_isControlAt 10 = .ok (.aload_n 0, 1) := by decide +kernel
theorem dX11_isControlAt_11 : decode cX11_isControlAt 11 = .ok (.getfield 40, 3) := by decide +kernel
theorem dX11_isControlAt_14 : decode cX11_isControlAt 14 = .ok (.iload_n 2, 1) := by decide +kernel
theorem dX11_isControlAt_15 : decode cX11_isControlAt 15 = .ok (.aaload, 1) := by decide +kernel
theorem dX11_isControlAt_16 : decode cX11_isControlAt 16 = .ok (.getfield 367, 3) := by decide +kernel
theorem dX11_isControlAt_19 : decode cX11_isControlAt 19 = .ok (.iload_n 1, 1) := by decide +kernel
theorem dX11_isControlAt_20 : decode cX11_isControlAt 20 = .ok (.if_icmp .ne 5, 3) := by decide +kernel
theorem dX11_isControlAt_23 : decode cX11_isControlAt 23 = .ok (.iconst 1, 1) := by decide +kernel
theorem dX11_isControlAt_24 : decode cX11_isControlAt 24 = .ok (.ireturn, 1) := by decide +kernel
theorem dX11_isControlAt_25 : decode cX11_isControlAt 25 = .ok (.iinc 2 1, 3) := by decide +kernel
theorem dX11_isControlAt_28 : decode cX11_isControlAt 28 = .ok (.goto (-26), 3) := by decide +kernel
theorem dX11_isControlAt_31 : decode cX11_isControlAt 31 = .ok (.iconst 0, 1) := by decide +kernel
theorem dX11_isControlAt_32 : decode cX11_isControlAt 32 = .ok (.ireturn, 1) := by decide +kernel
theorem dX11_newCar_0 : decode cX11_newCar 0 = .ok (.iload_n 2, 1) := by decide +kernel
theorem dX11_newCar_1 : decode cX11_newCar 1 = .ok (.iconst 1, 1) := by decide +kernel
theorem dX11_newCar_2 : decode cX11_newCar 2 = .ok (.if_icmp .ne 13, 3) := by decide +kernel
theorem dX11_newCar_5 : decode cX11_newCar 5 = .ok (.new 370, 3) := by decide +kernel
theorem dX11_newCar_8 : decode cX11_newCar 8 = .ok (.dup, 1) := by decide +kernel
theorem dX11_newCar_9 : decode cX11_newCar 9 = .ok (.iload_n 0, 1) := by decide +kernel
theorem dX11_newCar_10 : decode cX11_newCar 10 = .ok (.iload_n 1, 1) := by decide +kernel
theorem dX11_newCar_11 : decode cX11_newCar 11 = .ok (.invokespecial 372, 3) := by decide +kernel
theorem dX11_newCar_14 : decode cX11_newCar 14 = .ok (.areturn, 1) := by decide +kernel
theorem dX11_newCar_15 : decode cX11_newCar 15 = .ok (.iload_n 2, 1) := by decide +kernel
theorem dX11_newCar_16 : decode cX11_newCar 16 = .ok (.iconst 2, 1) := by decide +kernel
theorem dX11_newCar_17 : decode cX11_newCar 17 = .ok (.if_icmp .ne 13, 3) := by decide +kernel
theorem dX11_newCar_20 : decode cX11_newCar 20 = .ok (.new 374, 3) := by decide +kernel
theorem dX11_newCar_23 : decode cX11_newCar 23 = .ok (.dup, 1) := by decide +kernel
theorem dX11_newCar_24 : decode cX11_newCar 24 = .ok (.iload_n 0, 1) := by decide +kernel
theorem dX11_newCar_25 : decode cX11_newCar 25 = .ok (.iload_n 1, 1) := by decide +kernel
theorem dX11_newCar_26 : decode cX11_newCar 26 = .ok (.invokespecial 376, 3) := by decide +kernel
theorem dX11_newCar_29 : decode cX11_newCar 29 = .ok (.areturn, 1) := by decide +kernel
theorem dX11_newCar_30 : decode cX11_newCar 30 = .ok (.new 44, 3) := by decide +kernel
theorem dX11_newCar_33 : decode cX11_newCar 33 = .ok (.dup, 1) := by decide +kernel
theorem dX11_newCar_34 : decode cX11_newCar 34 = .ok (.iload_n 0, 1) := by decide +kernel
theorem dX11_newCar_35 : decode cX11_newCar 35 = .ok (.iload_n 1, 1) := by decide +kernel
theorem dX11_newCar_36 : decode cX11_newCar 36 = .ok (.invokespecial 377, 3) := by decide +kernel
theorem dX11_newCar_39 : decode cX11_newCar 39 = .ok (.areturn, 1) := by decide +kernel
theorem dX11_isOfClass_0 : decode cX11_isOfClass 0 = .ok (.iload_n 1, 1) := by decide +kernel
theorem dX11_isOfClass_1 : decode cX11_isOfClass 1 = .ok (.iconst 1, 1) := by decide +kernel
theorem dX11_isOfClass_2 : decode cX11_isOfClass 2 = .ok (.if_icmp .ne 8, 3) := by decide +kernel
theorem dX11_isOfClass_5 : decode cX11_isOfClass 5 = .ok (.aload_n 0, 1) := by decide +kernel
theorem dX11_isOfClass_6 : decode cX11_isOfClass 6 = .ok (.instanceof 370, 3) := by decide +kernel
theorem dX11_isOfClass_9 : decode cX11_isOfClass 9 = .ok (.ireturn, 1) := by decide +kernel
theorem dX11_isOfClass_10 : decode cX11_isOfClass 10 = .ok (.iload_n 1, 1) := by decide +kernel
theorem dX11_isOfClass_11 : decode cX11_isOfClass 11 = .ok (.iconst 2, 1) := by decide +kernel
theorem dX11_isOfClass_12 : decode cX11_isOfClass 12 = .ok (.if_icmp .ne 8, 3) := by decide +kernel
theorem dX11_isOfClass_15 : decode cX11_isOfClass 15 = .ok (.aload_n 0, 1) := by decide +kernel
theorem dX11_isOfClass_16 : decode cX11_isOfClass 16 = .ok (.instanceof 374, 3) := by decide +kernel
theorem dX11_isOfClass_19 : decode cX11_isOfClass 19 = .ok (.ireturn, 1) := by decide +kernel
theorem dX11_isOfClass_20 : decode cX11_isOfClass 20 = .ok (.iconst 1, 1) := by decide +kernel
theorem dX11_isOfClass_21 : decode cX11_isOfClass 21 = .ok (.ireturn, 1) := by decide +kernel
theorem dX11_errorOf_0 : decode cX11_errorOf 0 = .ok (.aload_n 0, 1) := by decide +kernel
theorem dX11_errorOf_1 : decode cX11_errorOf 1 = .ok (.getfield 40, 3) := by decide +kernel
theorem dX11_errorOf_4 : decode cX11_errorOf 4 = .ok (.iload_n 2, 1) := by decide +kernel
theorem dX11_errorOf_5 : decode cX11_errorOf 5 = .ok (.aaload, 1) := by decide +kernel
theorem dX11_errorOf_6 : decode cX11_errorOf 6 = .ok (.getfield 367, 3) := by decide +kernel
theorem dX11_errorOf_9 : decode cX11_errorOf 9 = .ok (.istore_n 3, 1) := by decide +kernel
theorem dX11_errorOf_10 : decode cX11_errorOf 10 = .ok (.aload_n 0, 1) := by decide +kernel
theorem dX11_errorOf_11 : decode cX11_errorOf 11 = .ok (.getfield 40, 3) := by decide +kernel
theorem dX11_errorOf_14 : decode cX11_errorOf 14 = .ok (.iload_n 2, 1) := by decide +kernel
theorem dX11_errorOf_15 : decode cX11_errorOf 15 = .ok (.aaload, 1) := by decide +kernel
theorem dX11_errorOf_16 : decode cX11_errorOf 16 = .ok (.aload_n 1, 1) := by decide +kernel
theorem dX11_errorOf_17 : decode cX11_errorOf 17 = .ok (.getfield 378, 3) := by decide +kernel
theorem dX11_errorOf_20 : decode cX11_errorOf 20 = .ok (.iload_n 2, 1) := by decide +kernel
theorem dX11_errorOf_21 : decode cX11_errorOf 21 = .ok (.iaload, 1) := by decide +kernel
theorem dX11_errorOf_22 : decode cX11_errorOf 22 = .ok (.invokevirtual 207, 3) := by decide +kernel
theorem dX11_errorOf_25 : decode cX11_errorOf 25 = .ok (.aload_n 1, 1) := by decide +kernel
theorem dX11_errorOf_26 : decode cX11_errorOf 26 = .ok (.getfield 381, 3) := by decide +kernel
theorem dX11_errorOf_29 : decode cX11_errorOf 29 = .ok (.i2l, 1) := by decide +kernel
theorem dX11_errorOf_30 : decode cX11_errorOf 30 = .ok (.lsub, 1) := by decide +kernel
theorem dX11_errorOf_31 : decode cX11_errorOf 31 = .ok (.aload_n 0, 1) := by decide +kernel
theorem dX11_errorOf_32 : decode cX11_errorOf 32 = .ok (.getfield 34, 3) := by decide +kernel
theorem dX11_errorOf_35 : decode cX11_errorOf 35 = .ok (.iload_n 3, 1) := by decide +kernel
theorem dX11_errorOf_36 : decode cX11_errorOf 36 = .ok (.invokevirtual 177, 3) := by decide +kernel
theorem dX11_errorOf_39 : decode cX11_errorOf 39 = .ok (.lsub, 1) := by decide +kernel
theorem dX11_errorOf_40 : decode cX11_errorOf 40 = .ok (.lstore 4, 2) := by decide +kernel
theorem dX11_errorOf_42 : decode cX11_errorOf 42 = .ok (.lload 4, 2) := by decide +kernel
theorem dX11_errorOf_44 : decode cX11_errorOf 44 = .ok (.lconst 0, 1) := by decide +kernel
theorem dX11_errorOf_45 : decode cX11_errorOf 45 = .ok (.lcmp, 1) := by decide +kernel
theorem dX11_errorOf_46 : decode cX11_errorOf 46 = .ok (.ifCond .le 20, 3) := by decide +kernel
theorem dX11_errorOf_49 : decode cX11_errorOf 49 = .ok (.lconst 0, 1) := by decide +kernel
theorem dX11_errorOf_50 : decode cX11_errorOf 50 = .ok (.lload 4, 2) := by decide +kernel
theorem dX11_errorOf_52 : decode cX11_errorOf 52 = .ok (.aload_n 0, 1) := by decide +kernel
theorem dX11_errorOf_53 : decode cX11_errorOf 53 = .ok (.aload_n 1, 1) := by decide +kernel
theorem dX11_errorOf_54 : decode cX11_errorOf 54 = .ok (.iload_n 3, 1) := by decide +kernel
theorem dX11_errorOf_55 : decode cX11_errorOf 55 = .ok (.invokevirtual 384, 3) := by decide +kernel
theorem dX11_errorOf_58 : decode cX11_errorOf 58 = .ok (.i2l, 1) := by decide +kernel
theorem dX11_errorOf_59 : decode cX11_errorOf 59 = .ok (.lsub, 1) := by decide +kernel
theorem dX11_errorOf_60 : decode cX11_errorOf 60 = .ok (.invokestatic 387, 3) := by decide +kernel
theorem dX11_errorOf_63 : decode cX11_errorOf 63 = .ok (.goto 5, 3) := by decide +kernel
theorem dX11_errorOf_66 : decode cX11_errorOf 66 = .ok (.lload 4, 2) := by decide +kernel
theorem dX11_errorOf_68 : decode cX11_errorOf 68 = .ok (.lreturn, 1) := by decide +kernel
theorem dX11_carriedTo_0 : decode cX11_carriedTo 0 = .ok (.iconst 0, 1) := by decide +kernel
theorem dX11_carriedTo_1 : decode cX11_carriedTo 1 = .ok (.istore_n 3, 1) := by decide +kernel
theorem dX11_carriedTo_2 : decode cX11_carriedTo 2 = .ok (.iconst 0, 1) := by decide +kernel
theorem dX11_carriedTo_3 : decode cX11_carriedTo 3 = .ok (.istore 4, 2) := by decide +kernel
theorem dX11_carriedTo_5 : decode cX11_carriedTo 5 = .ok (.iload 4, 2) := by decide +kernel
theorem dX11_carriedTo_7 : decode cX11_carriedTo 7 = .ok (.aload_n 0, 1) := by decide +kernel
theorem dX11_carriedTo_8 : decode cX11_carriedTo 8 = .ok (.getfield 186, 3) := by decide +kernel
theorem dX11_carriedTo_11 : decode cX11_carriedTo 11 = .ok (.if_icmp .ge 39, 3) := by decide +kernel
theorem dX11_carriedTo_14 : decode cX11_carriedTo 14 = .ok (.aload_n 0, 1) := by decide +kernel
theorem dX11_carriedTo_15 : decode cX11_carriedTo 15 = .ok (.getfield 40, 3) := by decide +kernel
theorem dX11_carriedTo_18 : decode cX11_carriedTo 18 = .ok (.iload 4, 2) := by decide +kernel
theorem dX11_carriedTo_20 : decode cX11_carriedTo 20 = .ok (.aaload, 1) := by decide +kernel
theorem dX11_carriedTo_21 : decode cX11_carriedTo 21 = .ok (.getfield 367, 3) := by decide +kernel
theorem dX11_carriedTo_24 : decode cX11_carriedTo 24 = .ok (.iload_n 2, 1) := by decide +kernel
theorem dX11_carriedTo_25 : decode cX11_carriedTo 25 = .ok (.if_icmp .gt 19, 3) := by decide +kernel
theorem dX11_carriedTo_28 : decode cX11_carriedTo 28 = .ok (.iload_n 3, 1) := by decide +kernel
theorem dX11_carriedTo_29 : decode cX11_carriedTo 29 = .ok (.aload_n 1, 1) := by decide +kernel
theorem dX11_carriedTo_30 : decode cX11_carriedTo 30 = .ok (.getfield 231, 3) := by decide +kernel
theorem dX11_carriedTo_33 : decode cX11_carriedTo 33 = .ok (.iload 4, 2) := by decide +kernel
theorem dX11_carriedTo_35 : decode cX11_carriedTo 35 = .ok (.iaload, 1) := by decide +kernel
theorem dX11_carriedTo_36 : decode cX11_carriedTo 36 = .ok (.sipush 600, 3) := by decide +kernel
theorem dX11_carriedTo_39 : decode cX11_carriedTo 39 = .ok (.invokestatic 393, 3) := by decide +kernel
theorem dX11_carriedTo_42 : decode cX11_carriedTo 42 = .ok (.iadd, 1) := by decide +kernel
theorem dX11_carriedTo_43 : decode cX11_carriedTo 43 = .ok (.istore_n 3, 1) := by decide +kernel
theorem dX11_carriedTo_44 : decode cX11_carriedTo 44 = .ok (.iinc 4 1, 3) := by decide +kernel
theorem dX11_carriedTo_47 : decode cX11_carriedTo 47 = .ok (.goto (-42), 3) := by decide +kernel
theorem dX11_carriedTo_50 : decode cX11_carriedTo 50 = .ok (.iload_n 3, 1) := by decide +kernel
theorem dX11_carriedTo_51 : decode cX11_carriedTo 51 = .ok (.sipush 1500, 3) := by decide +kernel
theorem dX11_carriedTo_54 : decode cX11_carriedTo 54 = .ok (.invokestatic 393, 3) := by decide +kernel
theorem dX11_carriedTo_57 : decode cX11_carriedTo 57 = .ok (.ireturn, 1) := by decide +kernel
theorem dX11_pointsOf_0 : decode cX11_pointsOf 0 = .ok (.aload_n 0, 1) := by decide +kernel
theorem dX11_pointsOf_1 : decode cX11_pointsOf 1 = .ok (.getfield 40, 3) := by decide +kernel
theorem dX11_pointsOf_4 : decode cX11_pointsOf 4 = .ok (.iload_n 2, 1) := by decide +kernel
theorem dX11_pointsOf_5 : decode cX11_pointsOf 5 = .ok (.aaload, 1) := by decide +kernel
theorem dX11_pointsOf_6 : decode cX11_pointsOf 6 = .ok (.getfield 210, 3) := by decide +kernel
theorem dX11_pointsOf_9 : decode cX11_pointsOf 9 = .ok (.ifCond .eq 5, 3) := by decide +kernel
theorem dX11_pointsOf_12 : decode cX11_pointsOf 12 = .ok (.iconst 0, 1) := by decide +kernel
theorem dX11_pointsOf_13 : decode cX11_pointsOf 13 = .ok (.ireturn, 1) := by decide +kernel
theorem dX11_pointsOf_14 : decode cX11_pointsOf 14 = .ok (.aload_n 1, 1) := by decide +kernel
theorem dX11_pointsOf_15 : decode cX11_pointsOf 15 = .ok (.iload_n 2, 1) := by decide +kernel
theorem dX11_pointsOf_16 : decode cX11_pointsOf 16 = .ok (.invokevirtual 225, 3) := by decide +kernel
theorem dX11_pointsOf_19 : decode cX11_pointsOf 19 = .ok (.ifCond .ne 7, 3) := by decide +kernel
theorem dX11_pointsOf_22 : decode cX11_pointsOf 22 = .ok (.sipush 300, 3) := by decide +kernel
theorem dX11_pointsOf_25 : decode cX11_pointsOf 25 = .ok (.ireturn, 1) := by decide +kernel
theorem dX11_pointsOf_26 : decode cX11_pointsOf 26 = .ok (.aload_n 0, 1) := by decide +kernel
theorem dX11_pointsOf_27 : decode cX11_pointsOf 27 = .ok (.aload_n 1, 1) := by decide +kernel
theorem dX11_pointsOf_28 : decode cX11_pointsOf 28 = .ok (.iload_n 2, 1) := by decide +kernel
theorem dX11_pointsOf_29 : decode cX11_pointsOf 29 = .ok (.invokevirtual 396, 3) := by decide +kernel
theorem dX11_pointsOf_32 : decode cX11_pointsOf 32 = .ok (.ifCond .eq 6, 3) := by decide +kernel
theorem dX11_pointsOf_35 : decode cX11_pointsOf 35 = .ok (.bipush 100, 2) := by decide +kernel
theorem dX11_pointsOf_37 : decode cX11_pointsOf 37 = .ok (.ireturn, 1) := by decide +kernel
theorem dX11_pointsOf_38 : decode cX11_pointsOf 38 = .ok (.aload_n 1, 1) := by decide +kernel
theorem dX11_pointsOf_39 : decode cX11_pointsOf 39 = .ok (.aload_n 0, 1) := by decide +kernel
theorem dX11_pointsOf_40 : decode cX11_pointsOf 40 = .ok (.aload_n 1, 1) := by decide +kernel
theorem dX11_pointsOf_41 : decode cX11_pointsOf 41 = .ok (.iload_n 2, 1) := by decide +kernel
theorem dX11_pointsOf_42 : decode cX11_pointsOf 42 = .ok (.invokevirtual 234, 3) := by decide +kernel
theorem dX11_pointsOf_45 : decode cX11_pointsOf 45 = .ok (.invokestatic 399, 3) := by decide +kernel
theorem dX11_pointsOf_48 : decode cX11_pointsOf 48 = .ok (.invokevirtual 403, 3) := by decide +kernel
theorem dX11_pointsOf_51 : decode cX11_pointsOf 51 = .ok (.ireturn, 1) := by decide +kernel
theorem dX11_pointsForError_0 : decode cX11_pointsForError 0 = .ok (.lload_n 0, 1) := by decide +kernel
theorem dX11_pointsForError_1 : decode cX11_pointsForError 1 = .ok (.invokestatic 406, 3) := by decide +kernel
theorem dX11_pointsForError_4 : decode cX11_pointsForError 4 = .ok (.ldc2_w 410, 3) := by decide +kernel
theorem dX11_pointsForError_7 : decode cX11_pointsForError 7 = .ok (.ladd, 1) := by decide +kernel
theorem dX11_pointsForError_8 : decode cX11_pointsForError 8 = .ok (.ldc2_w 412, 3) := by decide +kernel
theorem dX11_pointsForError_11 : decode cX11_pointsForError 11 = .ok (.ldiv, 1) := by decide +kernel
theorem dX11_pointsForError_12 : decode cX11_pointsForError 12 = .ok (.lstore_n 2, 1) := by decide +kernel
theorem dX11_pointsForError_13 : decode cX11_pointsForError 13 = .ok (.lload_n 0, 1) := by decide +kernel
theorem dX11_pointsForError_14 : decode cX11_pointsForError 14 = .ok (.lconst 0, 1) := by decide +kernel
theorem dX11_pointsForError_15 : decode cX11_pointsForError 15 = .ok (.lcmp, 1) := by decide +kernel
theorem dX11_pointsForError_16 : decode cX11_pointsForError 16 = .ok (.ifCond .ge 11, 3) := by decide +kernel
theorem dX11_pointsForError_19 : decode cX11_pointsForError 19 = .ok (.ldc2_w 414, 3) := by decide +kernel
theorem dX11_pointsForError_22 : decode cX11_pointsForError 22 = .ok (.lload_n 2, 1) := by decide +kernel
theorem dX11_pointsForError_23 : decode cX11_pointsForError 23 = .ok (.lmul, 1) := by decide +kernel
theorem dX11_pointsForError_24 : decode cX11_pointsForError 24 = .ok (.goto 4, 3) := by decide +kernel
theorem dX11_pointsForError_27 : decode cX11_pointsForError 27 = .ok (.lload_n 2, 1) := by decide +kernel
theorem dX11_pointsForError_28 : decode cX11_pointsForError 28 = .ok (.ldc2_w 416, 3) := by decide +kernel
theorem dX11_pointsForError_31 : decode cX11_pointsForError 31 = .ok (.invokestatic 418, 3) := by decide +kernel
theorem dX11_pointsForError_34 : decode cX11_pointsForError 34 = .ok (.l2i, 1) := by decide +kernel
theorem dX11_pointsForError_35 : decode cX11_pointsForError 35 = .ok (.ireturn, 1) := by decide +kernel
theorem dX11_isOutOfOrder_0 : decode cX11_isOutOfOrder 0 = .ok (.iconst 0, 1) := by decide +kernel
theorem dX11_isOutOfOrder_1 : decode cX11_isOutOfOrder 1 = .ok (.istore_n 3, 1) := by decide +kernel
theorem dX11_isOutOfOrder_2 : decode cX11_isOutOfOrder 2 = .ok (.iload_n 3, 1) := by decide +kernel
theorem dX11_isOutOfOrder_3 : decode cX11_isOutOfOrder 3 = .ok (.aload_n 0, 1) := by decide +kernel
theorem dX11_isOutOfOrder_4 : decode cX11_isOutOfOrder 4 = .ok (.getfield 186, 3) := by decide +kernel
theorem dX11_isOutOfOrder_7 : decode cX11_isOutOfOrder 7 = .ok (.if_icmp .ge 67, 3) := by decide +kernel
theorem dX11_isOutOfOrder_10 : decode cX11_isOutOfOrder 10 = .ok (.aload_n 0, 1) := by decide +kernel
theorem dX11_isOutOfOrder_11 : decode cX11_isOutOfOrder 11 = .ok (.getfield 40, 3) := by decide +kernel
theorem dX11_isOutOfOrder_14 : decode cX11_isOutOfOrder 14 = .ok (.iload_n 3, 1) := by decide +kernel
theorem dX11_isOutOfOrder_15 : decode cX11_isOutOfOrder 15 = .ok (.aaload, 1) := by decide +kernel
theorem dX11_isOutOfOrder_16 : decode cX11_isOutOfOrder 16 = .ok (.getfield 210, 3) := by decide +kernel
theorem dX11_isOutOfOrder_19 : decode cX11_isOutOfOrder 19 = .ok (.ifCond .ne 49, 3) := by decide +kernel
theorem dX11_isOutOfOrder_22 : decode cX11_isOutOfOrder 22 = .ok (.aload_n 0, 1) := by decide +kernel
theorem dX11_isOutOfOrder_23 : decode cX11_isOutOfOrder 23 = .ok (.getfield 40, 3) := by decide +kernel
theorem dX11_isOutOfOrder_26 : decode cX11_isOutOfOrder 26 = .ok (.iload_n 3, 1) := by decide +kernel
theorem dX11_isOutOfOrder_27 : decode cX11_isOutOfOrder 27 = .ok (.aaload, 1) := by decide +kernel
theorem dX11_isOutOfOrder_28 : decode cX11_isOutOfOrder 28 = .ok (.getfield 367, 3) := by decide +kernel
theorem dX11_isOutOfOrder_31 : decode cX11_isOutOfOrder 31 = .ok (.aload_n 0, 1) := by decide +kernel
theorem dX11_isOutOfOrder_32 : decode cX11_isOutOfOrder 32 = .ok (.getfield 40, 3) := by decide +kernel
theorem dX11_isOutOfOrder_35 : decode cX11_isOutOfOrder 35 = .ok (.iload_n 2, 1) := by decide +kernel
theorem dX11_isOutOfOrder_36 : decode cX11_isOutOfOrder 36 = .ok (.aaload, 1) := by decide +kernel
theorem dX11_isOutOfOrder_37 : decode cX11_isOutOfOrder 37 = .ok (.getfield 367, 3) := by decide +kernel
theorem dX11_isOutOfOrder_40 : decode cX11_isOutOfOrder 40 = .ok (.if_icmp .le 28, 3) := by decide +kernel
theorem dX11_isOutOfOrder_43 : decode cX11_isOutOfOrder 43 = .ok (.aload_n 1, 1) := by decide +kernel
theorem dX11_isOutOfOrder_44 : decode cX11_isOutOfOrder 44 = .ok (.iload_n 3, 1) := by decide +kernel
theorem dX11_isOutOfOrder_45 : decode cX11_isOutOfOrder 45 = .ok (.invokevirtual 225, 3) := by decide +kernel
theorem dX11_isOutOfOrder_48 : decode cX11_isOutOfOrder 48 = .ok (.ifCond .eq 20, 3) := by decide +kernel
theorem dX11_isOutOfOrder_51 : decode cX11_isOutOfOrder 51 = .ok (.aload_n 1, 1) := by decide +kernel
theorem dX11_isOutOfOrder_52 : decode cX11_isOutOfOrder 52 = .ok (.getfield 420, 3) := by decide +kernel
theorem dX11_isOutOfOrder_55 : decode cX11_isOutOfOrder 55 = .ok (.iload_n 3, 1) := by decide +kernel
theorem dX11_isOutOfOrder_56 : decode cX11_isOutOfOrder 56 = .ok (.iaload, 1) := by decide +kernel
theorem dX11_isOutOfOrder_57 : decode cX11_isOutOfOrder 57 = .ok (.aload_n 1, 1) := by decide +kernel
theorem dX11_isOutOfOrder_58 : decode cX11_isOutOfOrder 58 = .ok (.getfield 420, 3) := by decide +kernel
theorem dX11_isOutOfOrder_61 : decode cX11_isOutOfOrder 61 = .ok (.iload_n 2, 1) := by decide +kernel
theorem dX11_isOutOfOrder_62 : decode cX11_isOutOfOrder 62 = .ok (.iaload, 1) := by decide +kernel
theorem dX11_isOutOfOrder_63 : decode cX11_isOutOfOrder 63 = .ok (.if_icmp .ge 5, 3) := by decide +kernel
theorem dX11_isOutOfOrder_66 : decode cX11_isOutOfOrder 66 = .ok (.iconst 1, 1) := by decide +kernel
theorem dX11_isOutOfOrder_67 : decode cX11_isOutOfOrder 67 = .ok (.ireturn, 1) := by decide +kernel
theorem dX11_isOutOfOrder_68 : decode cX11_isOutOfOrder 68 = .ok (.iinc 3 1, 3) := by decide +kernel
theorem dX11_isOutOfOrder_71 : decode cX11_isOutOfOrder 71 = .ok (.goto (-69), 3) := by decide +kernel
theorem dX11_isOutOfOrder_74 : decode cX11_isOutOfOrder 74 = .ok (.iconst 0, 1) := by decide +kernel
theorem dX11_isOutOfOrder_75 : decode cX11_isOutOfOrder 75 = .ok (.ireturn, 1) := by decide +kernel
theorem dX11_totalOf_0 : decode cX11_totalOf 0 = .ok (.iconst 0, 1) := by decide +kernel
theorem dX11_totalOf_1 : decode cX11_totalOf 1 = .ok (.istore_n 2, 1) := by decide +kernel
theorem dX11_totalOf_2 : decode cX11_totalOf 2 = .ok (.iconst 0, 1) := by decide +kernel
theorem dX11_totalOf_3 : decode cX11_totalOf 3 = .ok (.istore_n 3, 1) := by decide +kernel
theorem dX11_totalOf_4 : decode cX11_totalOf 4 = .ok (.iload_n 3, 1) := by decide +kernel
theorem dX11_totalOf_5 : decode cX11_totalOf 5 = .ok (.aload_n 0, 1) := by decide +kernel
theorem dX11_totalOf_6 : decode cX11_totalOf 6 = .ok (.getfield 186, 3) := by decide +kernel
theorem dX11_totalOf_9 : decode cX11_totalOf 9 = .ok (.if_icmp .ge 18, 3) := by decide +kernel
theorem dX11_totalOf_12 : decode cX11_totalOf 12 = .ok (.iload_n 2, 1) := by decide +kernel
theorem dX11_totalOf_13 : decode cX11_totalOf 13 = .ok (.aload_n 0, 1) := by decide +kernel
theorem dX11_totalOf_14 : decode cX11_totalOf 14 = .ok (.aload_n 1, 1) := by decide +kernel
theorem dX11_totalOf_15 : decode cX11_totalOf 15 = .ok (.iload_n 3, 1) := by decide +kernel
theorem dX11_totalOf_16 : decode cX11_totalOf 16 = .ok (.invokevirtual 238, 3) := by decide +kernel
theorem dX11_totalOf_19 : decode cX11_totalOf 19 = .ok (.iadd, 1) := by decide +kernel
theorem dX11_totalOf_20 : decode cX11_totalOf 20 = .ok (.istore_n 2, 1) := by decide +kernel
theorem dX11_totalOf_21 : decode cX11_totalOf 21 = .ok (.iinc 3 1, 3) := by decide +kernel
theorem dX11_totalOf_24 : decode cX11_totalOf 24 = .ok (.goto (-20), 3) := by decide +kernel
theorem dX11_totalOf_27 : decode cX11_totalOf 27 = .ok (.iload_n 2, 1) := by decide +kernel
theorem dX11_totalOf_28 : decode cX11_totalOf 28 = .ok (.ireturn, 1) := by decide +kernel
theorem dX11_rankOf_0 : decode cX11_rankOf 0 = .ok (.aload_n 0, 1) := by decide +kernel
theorem dX11_rankOf_1 : decode cX11_rankOf 1 = .ok (.aload_n 1, 1) := by decide +kernel
theorem dX11_rankOf_2 : decode cX11_rankOf 2 = .ok (.invokevirtual 242, 3) := by decide +kernel
theorem dX11_rankOf_5 : decode cX11_rankOf 5 = .ok (.istore_n 2, 1) := by decide +kernel
theorem dX11_rankOf_6 : decode cX11_rankOf 6 = .ok (.iconst 1, 1) := by decide +kernel
theorem dX11_rankOf_7 : decode cX11_rankOf 7 = .ok (.istore_n 3, 1) := by decide +kernel
theorem dX11_rankOf_8 : decode cX11_rankOf 8 = .ok (.iconst 0, 1) := by decide +kernel
theorem dX11_rankOf_9 : decode cX11_rankOf 9 = .ok (.istore 4, 2) := by decide +kernel
theorem dX11_rankOf_11 : decode cX11_rankOf 11 = .ok (.iload 4, 2) := by decide +kernel
theorem dX11_rankOf_13 : decode cX11_rankOf 13 = .ok (.aload_n 0, 1) := by decide +kernel
theorem dX11_rankOf_14 : decode cX11_rankOf 14 = .ok (.getfield 214, 3) := by decide +kernel
theorem dX11_rankOf_17 : decode cX11_rankOf 17 = .ok (.if_icmp .ge 52, 3) := by decide +kernel
theorem dX11_rankOf_20 : decode cX11_rankOf 20 = .ok (.aload_n 0, 1) := by decide +kernel
theorem dX11_rankOf_21 : decode cX11_rankOf 21 = .ok (.aload_n 0, 1) := by decide +kernel
theorem dX11_rankOf_22 : decode cX11_rankOf 22 = .ok (.getfield 46, 3) := by decide +kernel
theorem dX11_rankOf_25 : decode cX11_rankOf 25 = .ok (.iload 4, 2) := by decide +kernel
theorem dX11_rankOf_27 : decode cX11_rankOf 27 = .ok (.aaload, 1) := by decide +kernel
theorem dX11_rankOf_28 : decode cX11_rankOf 28 = .ok (.invokevirtual 242, 3) := by decide +kernel
theorem dX11_rankOf_31 : decode cX11_rankOf 31 = .ok (.istore 5, 2) := by decide +kernel
theorem dX11_rankOf_33 : decode cX11_rankOf 33 = .ok (.iload 5, 2) := by decide +kernel
theorem dX11_rankOf_35 : decode cX11_rankOf 35 = .ok (.iload_n 2, 1) := by decide +kernel
theorem dX11_rankOf_36 : decode cX11_rankOf 36 = .ok (.if_icmp .lt 24, 3) := by decide +kernel
theorem dX11_rankOf_39 : decode cX11_rankOf 39 = .ok (.iload 5, 2) := by decide +kernel
theorem dX11_rankOf_41 : decode cX11_rankOf 41 = .ok (.iload_n 2, 1) := by decide +kernel
theorem dX11_rankOf_42 : decode cX11_rankOf 42 = .ok (.if_icmp .ne 21, 3) := by decide +kernel
theorem dX11_rankOf_45 : decode cX11_rankOf 45 = .ok (.aload_n 0, 1) := by decide +kernel
theorem dX11_rankOf_46 : decode cX11_rankOf 46 = .ok (.aload_n 0, 1) := by decide +kernel
theorem dX11_rankOf_47 : decode cX11_rankOf 47 = .ok (.getfield 46, 3) := by decide +kernel
theorem dX11_rankOf_50 : decode cX11_rankOf 50 = .ok (.iload 4, 2) := by decide +kernel
theorem dX11_rankOf_52 : decode cX11_rankOf 52 = .ok (.aaload, 1) := by decide +kernel
theorem dX11_rankOf_53 : decode cX11_rankOf 53 = .ok (.aload_n 1, 1) := by decide +kernel
theorem dX11_rankOf_54 : decode cX11_rankOf 54 = .ok (.invokevirtual 423, 3) := by decide +kernel
theorem dX11_rankOf_57 : decode cX11_rankOf 57 = .ok (.ifCond .eq 6, 3) := by decide +kernel
theorem dX11_rankOf_60 : decode cX11_rankOf 60 = .ok (.iinc 3 1, 3) := by decide +kernel
theorem dX11_rankOf_63 : decode cX11_rankOf 63 = .ok (.iinc 4 1, 3) := by decide +kernel
theorem dX11_rankOf_66 : decode cX11_rankOf 66 = .ok (.goto (-55), 3) := by decide +kernel
theorem dX11_rankOf_69 : decode cX11_rankOf 69 = .ok (.iload_n 3, 1) := by decide +kernel
theorem dX11_rankOf_70 : decode cX11_rankOf 70 = .ok (.ireturn, 1) := by decide +kernel
theorem dX11_isBetterOfTie_0 : decode cX11_isBetterOfTie 0 = .ok (.aload_n 1, 1) := by decide +kernel
theorem dX11_isBetterOfTie_1 : decode cX11_isBetterOfTie 1 = .ok (.getfield 427, 3) := by decide +kernel
theorem dX11_isBetterOfTie_4 : decode cX11_isBetterOfTie 4 = .ok (.aload_n 2, 1) := by decide +kernel
theorem dX11_isBetterOfTie_5 : decode cX11_isBetterOfTie 5 = .ok (.getfield 427, 3) := by decide +kernel
theorem dX11_isBetterOfTie_8 : decode cX11_isBetterOfTie 8 = .ok (.if_icmp .ge 7, 3) := by decide +kernel
theorem dX11_isBetterOfTie_11 : decode cX11_isBetterOfTie 11 = .ok (.iconst 1, 1) := by decide +kernel
theorem dX11_isBetterOfTie_12 : decode cX11_isBetterOfTie 12 = .ok (.goto 4, 3) := by decide +kernel
theorem dX11_isBetterOfTie_15 : decode cX11_isBetterOfTie 15 = .ok (.iconst 0, 1) := by decide +kernel
theorem dX11_isBetterOfTie_16 : decode cX11_isBetterOfTie 16 = .ok (.istore_n 3, 1) := by decide +kernel
theorem dX11_isBetterOfTie_17 : decode cX11_isBetterOfTie 17 = .ok (.aload_n 0, 1) := by decide +kernel
theorem dX11_isBetterOfTie_18 : decode cX11_isBetterOfTie 18 = .ok (.getfield 34, 3) := by decide +kernel
theorem dX11_isBetterOfTie_21 : decode cX11_isBetterOfTie 21 = .ok (.getfield 164, 3) := by decide +kernel
theorem dX11_isBetterOfTie_24 : decode cX11_isBetterOfTie 24 = .ok (.iconst 1, 1) := by decide +kernel
theorem dX11_isBetterOfTie_25 : decode cX11_isBetterOfTie 25 = .ok (.iadd, 1) := by decide +kernel
theorem dX11_isBetterOfTie_26 : decode cX11_isBetterOfTie 26 = .ok (.istore 4, 2) := by decide +kernel
theorem dX11_isBetterOfTie_28 : decode cX11_isBetterOfTie 28 = .ok (.iconst 0, 1) := by decide +kernel
theorem dX11_isBetterOfTie_29 : decode cX11_isBetterOfTie 29 = .ok (.istore 5, 2) := by decide +kernel
theorem dX11_isBetterOfTie_31 : decode cX11_isBetterOfTie 31 = .ok (.iload 5, 2) := by decide +kernel
theorem dX11_isBetterOfTie_33 : decode cX11_isBetterOfTie 33 = .ok (.aload_n 0, 1) := by decide +kernel
theorem dX11_isBetterOfTie_34 : decode cX11_isBetterOfTie 34 = .ok (.getfield 186, 3) := by decide +kernel
theorem dX11_isBetterOfTie_37 : decode cX11_isBetterOfTie 37 = .ok (.if_icmp .ge 74, 3) := by decide +kernel
theorem dX11_isBetterOfTie_40 : decode cX11_isBetterOfTie 40 = .ok (.aload_n 0, 1) := by decide +kernel
theorem dX11_isBetterOfTie_41 : decode cX11_isBetterOfTie 41 = .ok (.aload_n 1, 1) := by decide +kernel
theorem dX11_isBetterOfTie_42 : decode cX11_isBetterOfTie 42 = .ok (.iload 5, 2) := by decide +kernel
theorem dX11_isBetterOfTie_44 : decode cX11_isBetterOfTie 44 = .ok (.invokevirtual 238, 3) := by decide +kernel
theorem dX11_isBetterOfTie_47 : decode cX11_isBetterOfTie 47 = .ok (.istore 6, 2) := by decide +kernel
theorem dX11_isBetterOfTie_49 : decode cX11_isBetterOfTie 49 = .ok (.aload_n 0, 1) := by decide +kernel
theorem dX11_isBetterOfTie_50 : decode cX11_isBetterOfTie 50 = .ok (.aload_n 2, 1) := by decide +kernel
theorem dX11_isBetterOfTie_51 : decode cX11_isBetterOfTie 51 = .ok (.iload 5, 2) := by decide +kernel
theorem dX11_isBetterOfTie_53 : decode cX11_isBetterOfTie 53 = .ok (.invokevirtual 238, 3) := by decide +kernel
theorem dX11_isBetterOfTie_56 : decode cX11_isBetterOfTie 56 = .ok (.istore 7, 2) := by decide +kernel
theorem dX11_isBetterOfTie_58 : decode cX11_isBetterOfTie 58 = .ok (.iload 6, 2) := by decide +kernel
theorem dX11_isBetterOfTie_60 : decode cX11_isBetterOfTie 60 = .ok (.iload 7, 2) := by decide +kernel
theorem dX11_isBetterOfTie_62 : decode cX11_isBetterOfTie 62 = .ok (.if_icmp .eq 43, 3) := by decide +kernel
theorem dX11_isBetterOfTie_65 : decode cX11_isBetterOfTie 65 = .ok (.aload_n 0, 1) := by decide +kernel
theorem dX11_isBetterOfTie_66 : decode cX11_isBetterOfTie 66 = .ok (.getfield 40, 3) := by decide +kernel
theorem dX11_isBetterOfTie_69 : decode cX11_isBetterOfTie 69 = .ok (.iload 5, 2) := by decide +kernel
theorem dX11_isBetterOfTie_71 : decode cX11_isBetterOfTie 71 = .ok (.aaload, 1) := by decide +kernel
theorem dX11_isBetterOfTie_72 : decode cX11_isBetterOfTie 72 = .ok (.getfield 367, 3) := by decide +kernel
theorem dX11_isBetterOfTie_75 : decode cX11_isBetterOfTie 75 = .ok (.iload 4, 2) := by decide +kernel
theorem dX11_isBetterOfTie_77 : decode cX11_isBetterOfTie 77 = .ok (.if_icmp .ge 28, 3) := by decide +kernel
theorem dX11_isBetterOfTie_80 : decode cX11_isBetterOfTie 80 = .ok (.aload_n 0, 1) := by decide +kernel
theorem dX11_isBetterOfTie_81 : decode cX11_isBetterOfTie 81 = .ok (.getfield 40, 3) := by decide +kernel
theorem dX11_isBetterOfTie_84 : decode cX11_isBetterOfTie 84 = .ok (.iload 5, 2) := by decide +kernel
theorem dX11_isBetterOfTie_86 : decode cX11_isBetterOfTie 86 = .ok (.aaload, 1) := by decide +kernel
theorem dX11_isBetterOfTie_87 : decode cX11_isBetterOfTie 87 = .ok (.getfield 367, 3) := by decide +kernel
theorem dX11_isBetterOfTie_90 : decode cX11_isBetterOfTie 90 = .ok (.istore 4, 2) := by decide +kernel
theorem dX11_isBetterOfTie_92 : decode cX11_isBetterOfTie 92 = .ok (.iload 6, 2) := by decide +kernel
theorem dX11_isBetterOfTie_94 : decode cX11_isBetterOfTie 94 = .ok (.iload 7, 2) := by decide +kernel
theorem dX11_isBetterOfTie_96 : decode cX11_isBetterOfTie 96 = .ok (.if_icmp .ge 7, 3) := by decide +kernel
theorem dX11_isBetterOfTie_99 : decode cX11_isBetterOfTie 99 = .ok (.iconst 1, 1) := by decide +kernel
theorem dX11_isBetterOfTie_100 : decode cX11_isBetterOfTie 100 = .ok (.goto 4, 3) := by decide +kernel
theorem dX11_isBetterOfTie_103 : decode cX11_isBetterOfTie 103 = .ok (.iconst 0, 1) := by decide +kernel
theorem dX11_isBetterOfTie_104 : decode cX11_isBetterOfTie 104 = .ok (.istore_n 3, 1) := by decide +kernel
theorem dX11_isBetterOfTie_105 : decode cX11_isBetterOfTie 105 = .ok (.iinc 5 1, 3) := by decide +kernel
theorem dX11_isBetterOfTie_108 : decode cX11_isBetterOfTie 108 = .ok (.goto (-77), 3) := by decide +kernel
theorem dX11_isBetterOfTie_111 : decode cX11_isBetterOfTie 111 = .ok (.iload_n 3, 1) := by decide +kernel
theorem dX11_isBetterOfTie_112 : decode cX11_isBetterOfTie 112 = .ok (.ireturn, 1) := by decide +kernel
theorem dX11_missedBy_0 : decode cX11_missedBy 0 = .ok (.iconst 0, 1) := by decide +kernel
theorem dX11_missedBy_1 : decode cX11_missedBy 1 = .ok (.istore_n 2, 1) := by decide +kernel
theorem dX11_missedBy_2 : decode cX11_missedBy 2 = .ok (.iconst 0, 1) := by decide +kernel
theorem dX11_missedBy_3 : decode cX11_missedBy 3 = .ok (.istore_n 3, 1) := by decide +kernel
theorem dX11_missedBy_4 : decode cX11_missedBy 4 = .ok (.iload_n 3, 1) := by decide +kernel
theorem dX11_missedBy_5 : decode cX11_missedBy 5 = .ok (.aload_n 0, 1) := by decide +kernel
theorem dX11_missedBy_6 : decode cX11_missedBy 6 = .ok (.getfield 186, 3) := by decide +kernel
theorem dX11_missedBy_9 : decode cX11_missedBy 9 = .ok (.if_icmp .ge 32, 3) := by decide +kernel
theorem dX11_missedBy_12 : decode cX11_missedBy 12 = .ok (.aload_n 0, 1) := by decide +kernel
theorem dX11_missedBy_13 : decode cX11_missedBy 13 = .ok (.getfield 40, 3) := by decide +kernel
theorem dX11_missedBy_16 : decode cX11_missedBy 16 = .ok (.iload_n 3, 1) := by decide +kernel
theorem dX11_missedBy_17 : decode cX11_missedBy 17 = .ok (.aaload, 1) := by decide +kernel
theorem dX11_missedBy_18 : decode cX11_missedBy 18 = .ok (.getfield 210, 3) := by decide +kernel
theorem dX11_missedBy_21 : decode cX11_missedBy 21 = .ok (.ifCond .ne 14, 3) := by decide +kernel
theorem dX11_missedBy_24 : decode cX11_missedBy 24 = .ok (.aload_n 1, 1) := by decide +kernel
theorem dX11_missedBy_25 : decode cX11_missedBy 25 = .ok (.iload_n 3, 1) := by decide +kernel
theorem dX11_missedBy_26 : decode cX11_missedBy 26 = .ok (.invokevirtual 225, 3) := by decide +kernel
theorem dX11_missedBy_29 : decode cX11_missedBy 29 = .ok (.ifCond .ne 6, 3) := by decide +kernel
theorem dX11_missedBy_32 : decode cX11_missedBy 32 = .ok (.iinc 2 1, 3) := by decide +kernel
theorem dX11_missedBy_35 : decode cX11_missedBy 35 = .ok (.iinc 3 1, 3) := by decide +kernel
theorem dX11_missedBy_38 : decode cX11_missedBy 38 = .ok (.goto (-34), 3) := by decide +kernel
theorem dX11_missedBy_41 : decode cX11_missedBy 41 = .ok (.iload_n 2, 1) := by decide +kernel
theorem dX11_missedBy_42 : decode cX11_missedBy 42 = .ok (.ireturn, 1) := by decide +kernel
theorem dX11_outOfOrderBy_0 : decode cX11_outOfOrderBy 0 = .ok (.iconst 0, 1) := by decide +kernel
theorem dX11_outOfOrderBy_1 : decode cX11_outOfOrderBy 1 = .ok (.istore_n 2, 1) := by decide +kernel
theorem dX11_outOfOrderBy_2 : decode cX11_outOfOrderBy 2 = .ok (.iconst 0, 1) := by decide +kernel
theorem dX11_outOfOrderBy_3 : decode cX11_outOfOrderBy 3 = .ok (.istore_n 3, 1) := by decide +kernel
theorem dX11_outOfOrderBy_4 : decode cX11_outOfOrderBy 4 = .ok (.iload_n 3, 1) := by decide +kernel
theorem dX11_outOfOrderBy_5 : decode cX11_outOfOrderBy 5 = .ok (.aload_n 0, 1) := by decide +kernel
theorem dX11_outOfOrderBy_6 : decode cX11_outOfOrderBy 6 = .ok (.getfield 186, 3) := by decide +kernel
theorem dX11_outOfOrderBy_9 : decode cX11_outOfOrderBy 9 = .ok (.if_icmp .ge 41, 3) := by decide +kernel
theorem dX11_outOfOrderBy_12 : decode cX11_outOfOrderBy 12 = .ok (.aload_n 0, 1) := by decide +kernel
theorem dX11_outOfOrderBy_13 : decode cX11_outOfOrderBy 13 = .ok (.getfield 40, 3) := by decide +kernel
theorem dX11_outOfOrderBy_16 : decode cX11_outOfOrderBy 16 = .ok (.iload_n 3, 1) := by decide +kernel
theorem dX11_outOfOrderBy_17 : decode cX11_outOfOrderBy 17 = .ok (.aaload, 1) := by decide +kernel
theorem dX11_outOfOrderBy_18 : decode cX11_outOfOrderBy 18 = .ok (.getfield 210, 3) := by decide +kernel
theorem dX11_outOfOrderBy_21 : decode cX11_outOfOrderBy 21 = .ok (.ifCond .ne 23, 3) := by decide +kernel
theorem dX11_outOfOrderBy_24 : decode cX11_outOfOrderBy 24 = .ok (.aload_n 1, 1) := by decide +kernel
theorem dX11_outOfOrderBy_25 : decode cX11_outOfOrderBy 25 = .ok (.iload_n 3, 1) := by decide +kernel
theorem dX11_outOfOrderBy_26 : decode cX11_outOfOrderBy 26 = .ok (.invokevirtual 225, 3) := by decide +kernel
theorem dX11_outOfOrderBy_29 : decode cX11_outOfOrderBy 29 = .ok (.ifCond .eq 15, 3) := by decide +kernel
theorem dX11_outOfOrderBy_32 : decode cX11_outOfOrderBy 32 = .ok (.aload_n 0, 1) := by decide +kernel
theorem dX11_outOfOrderBy_33 : decode cX11_outOfOrderBy 33 = .ok (.aload_n 1, 1) := by decide +kernel
theorem dX11_outOfOrderBy_34 : decode cX11_outOfOrderBy 34 = .ok (.iload_n 3, 1) := by decide +kernel
theorem dX11_outOfOrderBy_35 : decode cX11_outOfOrderBy 35 = .ok (.invokevirtual 396, 3) := by decide +kernel
theorem dX11_outOfOrderBy_38 : decode cX11_outOfOrderBy 38 = .ok (.ifCond .eq 6, 3) := by decide +kernel
theorem dX11_outOfOrderBy_41 : decode cX11_outOfOrderBy 41 = .ok (.iinc 2 1, 3) := by decide +kernel
theorem dX11_outOfOrderBy_44 : decode cX11_outOfOrderBy 44 = .ok (.iinc 3 1, 3) := by decide +kernel
theorem dX11_outOfOrderBy_47 : decode cX11_outOfOrderBy 47 = .ok (.goto (-43), 3) := by decide +kernel
theorem dX11_outOfOrderBy_50 : decode cX11_outOfOrderBy 50 = .ok (.iload_n 2, 1) := by decide +kernel
theorem dX11_outOfOrderBy_51 : decode cX11_outOfOrderBy 51 = .ok (.ireturn, 1) := by decide +kernel
theorem dX11_cutToLane_0 : decode cX11_cutToLane 0 = .ok (.iload_n 1, 1) := by decide +kernel
theorem dX11_cutToLane_1 : decode cX11_cutToLane 1 = .ok (.ifCond .ne 6, 3) := by decide +kernel
theorem dX11_cutToLane_4 : decode cX11_cutToLane 4 = .ok (.iload_n 0, 1) := by decide +kernel
theorem dX11_cutToLane_5 : decode cX11_cutToLane 5 = .ok (.i2b, 1) := by decide +kernel
theorem dX11_cutToLane_6 : decode cX11_cutToLane 6 = .ok (.ireturn, 1) := by decide +kernel
theorem dX11_cutToLane_7 : decode cX11_cutToLane 7 = .ok (.iload_n 1, 1) := by decide +kernel
theorem dX11_cutToLane_8 : decode cX11_cutToLane 8 = .ok (.iconst 1, 1) := by decide +kernel
theorem dX11_cutToLane_9 : decode cX11_cutToLane 9 = .ok (.if_icmp .ne 8, 3) := by decide +kernel
theorem dX11_cutToLane_12 : decode cX11_cutToLane 12 = .ok (.iload_n 0, 1) := by decide +kernel
theorem dX11_cutToLane_13 : decode cX11_cutToLane 13 = .ok (.i2s, 1) := by decide +kernel
theorem dX11_cutToLane_14 : decode cX11_cutToLane 14 = .ok (.goto 4, 3) := by decide +kernel
theorem dX11_cutToLane_17 : decode cX11_cutToLane 17 = .ok (.iload_n 0, 1) := by decide +kernel
theorem dX11_cutToLane_18 : decode cX11_cutToLane 18 = .ok (.ireturn, 1) := by decide +kernel
theorem dX12_init_0 : decode cX12_init 0 = .ok (.aload_n 0, 1) := by decide +kernel
theorem dX12_init_1 : decode cX12_init 1 = .ok (.invokespecial 1, 3) := by decide +kernel
theorem dX12_init_4 : decode cX12_init 4 = .ok (.aload_n 0, 1) := by decide +kernel
theorem dX12_init_5 : decode cX12_init 5 = .ok (.bipush 16, 2) := by decide +kernel
theorem dX12_init_7 : decode cX12_init 7 = .ok (.newarray .int, 2) := by decide +kernel
theorem dX12_init_9 : decode cX12_init 9 = .ok (.putfield 7, 3) := by decide +kernel
theorem dX12_init_12 : decode cX12_init 12 = .ok (.aload_n 0, 1) := by decide +kernel
theorem dX12_init_13 : decode cX12_init 13 = .ok (.bipush 16, 2) := by decide +kernel
theorem dX12_init_15 : decode cX12_init 15 = .ok (.newarray .int, 2) := by decide +kernel
theorem dX12_init_17 : decode cX12_init 17 = .ok (.putfield 13, 3) := by decide +kernel
theorem dX12_init_20 : decode cX12_init 20 = .ok (.aload_n 0, 1) := by decide +kernel
theorem dX12_init_21 : decode cX12_init 21 = .ok (.bipush 16, 2) := by decide +kernel
theorem dX12_init_23 : decode cX12_init 23 = .ok (.newarray .int, 2) := by decide +kernel
theorem dX12_init_25 : decode cX12_init 25 = .ok (.putfield 16, 3) := by decide +kernel
theorem dX12_init_28 : decode cX12_init 28 = .ok (.aload_n 0, 1) := by decide +kernel
theorem dX12_init_29 : decode cX12_init 29 = .ok (.bipush 16, 2) := by decide +kernel
theorem dX12_init_31 : decode cX12_init 31 = .ok (.newarray .int, 2) := by decide +kernel
theorem dX12_init_33 : decode cX12_init 33 = .ok (.putfield 19, 3) := by decide +kernel
theorem dX12_init_36 : decode cX12_init 36 = .ok (.aload_n 0, 1) := by decide +kernel
theorem dX12_init_37 : decode cX12_init 37 = .ok (.bipush 16, 2) := by decide +kernel
theorem dX12_init_39 : decode cX12_init 39 = .ok (.newarray .boolean, 2) := by decide +kernel
theorem dX12_init_41 : decode cX12_init 41 = .ok (.putfield 22, 3) := by decide +kernel
theorem dX12_init_44 : decode cX12_init 44 = .ok (.aload_n 0, 1) := by decide +kernel
theorem dX12_init_45 : decode cX12_init 45 = .ok (.bipush 16, 2) := by decide +kernel
theorem dX12_init_47 : decode cX12_init 47 = .ok (.newarray .boolean, 2) := by decide +kernel
theorem dX12_init_49 : decode cX12_init 49 = .ok (.putfield 26, 3) := by decide +kernel
theorem dX12_init_52 : decode cX12_init 52 = .ok (.aload_n 0, 1) := by decide +kernel
theorem dX12_init_53 : decode cX12_init 53 = .ok (.iconst 4, 1) := by decide +kernel
theorem dX12_init_54 : decode cX12_init 54 = .ok (.newarray .int, 2) := by decide +kernel
theorem dX12_init_56 : decode cX12_init 56 = .ok (.putfield 29, 3) := by decide +kernel
theorem dX12_init_59 : decode cX12_init 59 = .ok (.aload_n 0, 1) := by decide +kernel
theorem dX12_init_60 : decode cX12_init 60 = .ok (.iconst 4, 1) := by decide +kernel
theorem dX12_init_61 : decode cX12_init 61 = .ok (.newarray .int, 2) := by decide +kernel
theorem dX12_init_63 : decode cX12_init 63 = .ok (.putfield 32, 3) := by decide +kernel
theorem dX12_init_66 : decode cX12_init 66 = .ok (.aload_n 0, 1) := by decide +kernel
theorem dX12_init_67 : decode cX12_init 67 = .ok (.sipush 128, 3) := by decide +kernel
theorem dX12_init_70 : decode cX12_init 70 = .ok (.newarray .int, 2) := by decide +kernel
theorem dX12_init_72 : decode cX12_init 72 = .ok (.putfield 35, 3) := by decide +kernel
theorem dX12_init_75 : decode cX12_init 75 = .ok (.aload_n 0, 1) := by decide +kernel
theorem dX12_init_76 : decode cX12_init 76 = .ok (.bipush 32, 2) := by decide +kernel
theorem dX12_init_78 : decode cX12_init 78 = .ok (.newarray .int, 2) := by decide +kernel
theorem dX12_init_80 : decode cX12_init 80 = .ok (.putfield 38, 3) := by decide +kernel
theorem dX12_init_83 : decode cX12_init 83 = .ok (.aload_n 0, 1) := by decide +kernel
theorem dX12_init_84 : decode cX12_init 84 = .ok (.bipush 8, 2) := by decide +kernel
theorem dX12_init_86 : decode cX12_init 86 = .ok (.newarray .int, 2) := by decide +kernel
theorem dX12_init_88 : decode cX12_init 88 = .ok (.putfield 41, 3) := by decide +kernel
theorem dX12_init_91 : decode cX12_init 91 = .ok (.aload_n 0, 1) := by decide +kernel
theorem dX12_init_92 : decode cX12_init 92 = .ok (.bipush 10, 2) := by decide +kernel
theorem dX12_init_94 : decode cX12_init 94 = .ok (.newarray .int, 2) := by decide +kernel
theorem dX12_init_96 : decode cX12_init 96 = .ok (.putfield 44, 3) := by decide +kernel
theorem dX12_init_99 : decode cX12_init 99 = .ok (.aload_n 0, 1) := by decide +kernel
theorem dX12_init_100 : decode cX12_init 100 = .ok (.bipush 11, 2) := by decide +kernel
theorem dX12_init_102 : decode cX12_init 102 = .ok (.newarray .int, 2) := by decide +kernel
theorem dX12_init_104 : decode cX12_init 104 = .ok (.putfield 47, 3) := by decide +kernel
theorem dX12_init_107 : decode cX12_init 107 = .ok (.aload_n 0, 1) := by decide +kernel
theorem dX12_init_108 : decode cX12_init 108 = .ok (.bipush 11, 2) := by decide +kernel
theorem dX12_init_110 : decode cX12_init 110 = .ok (.newarray .int, 2) := by decide +kernel
theorem dX12_init_112 : decode cX12_init 112 = .ok (.putfield 50, 3) := by decide +kernel
theorem dX12_init_115 : decode cX12_init 115 = .ok (.aload_n 0, 1) := by decide +kernel
theorem dX12_init_116 : decode cX12_init 116 = .ok (.bipush 11, 2) := by decide +kernel
theorem dX12_init_118 : decode cX12_init 118 = .ok (.newarray .int, 2) := by decide +kernel
theorem dX12_init_120 : decode cX12_init 120 = .ok (.putfield 53, 3) := by decide +kernel
theorem dX12_init_123 : decode cX12_init 123 = .ok (.aload_n 0, 1) := by decide +kernel
theorem dX12_init_124 : decode cX12_init 124 = .ok (.bipush 11, 2) := by decide +kernel
theorem dX12_init_126 : decode cX12_init 126 = .ok (.newarray .int, 2) := by decide +kernel
theorem dX12_init_128 : decode cX12_init 128 = .ok (.putfield 56, 3) := by decide +kernel
theorem dX12_init_131 : decode cX12_init 131 = .ok (.aload_n 0, 1) := by decide +kernel
theorem dX12_init_132 : decode cX12_init 132 = .ok (.bipush 10, 2) := by decide +kernel
theorem dX12_init_134 : decode cX12_init 134 = .ok (.newarray .int, 2) := by decide +kernel
theorem dX12_init_136 : decode cX12_init 136 = .ok (.putfield 59, 3) := by decide +kernel
theorem dX12_init_139 : decode cX12_init 139 = .ok (.aload_n 0, 1) := by decide +kernel
theorem dX12_init_140 : decode cX12_init 140 = .ok (.bipush 8, 2) := by decide +kernel
theorem dX12_init_142 : decode cX12_init 142 = .ok (.newarray .int, 2) := by decide +kernel
theorem dX12_init_144 : decode cX12_init 144 = .ok (.putfield 62, 3) := by decide +kernel
theorem dX12_init_147 : decode cX12_init 147 = .ok (.aload_n 0, 1) := by decide +kernel
theorem dX12_init_148 : decode cX12_init 148 = .ok (.bipush 8, 2) := by decide +kernel
theorem dX12_init_150 : decode cX12_init 150 = .ok (.newarray .int, 2) := by decide +kernel
theorem dX12_init_152 : decode cX12_init 152 = .ok (.putfield 65, 3) := by decide +kernel
theorem dX12_init_155 : decode cX12_init 155 = .ok (.aload_n 0, 1) := by decide +kernel
theorem dX12_init_156 : decode cX12_init 156 = .ok (.bipush 8, 2) := by decide +kernel
theorem dX12_init_158 : decode cX12_init 158 = .ok (.newarray .int, 2) := by decide +kernel
theorem dX12_init_160 : decode cX12_init 160 = .ok (.putfield 68, 3) := by decide +kernel
theorem dX12_init_163 : decode cX12_init 163 = .ok (.aload_n 0, 1) := by decide +kernel
theorem dX12_init_164 : decode cX12_init 164 = .ok (.bipush 8, 2) := by decide +kernel
theorem dX12_init_166 : decode cX12_init 166 = .ok (.newarray .boolean, 2) := by decide +kernel
theorem dX12_init_168 : decode cX12_init 168 = .ok (.putfield 71, 3) := by decide +kernel
theorem dX12_init_171 : decode cX12_init 171 = .ok (.aload_n 0, 1) := by decide +kernel
theorem dX12_init_172 : decode cX12_init 172 = .ok (.bipush 8, 2) := by decide +kernel
theorem dX12_init_174 : decode cX12_init 174 = .ok (.newarray .boolean, 2) := by decide +kernel
theorem dX12_init_176 : decode cX12_init 176 = .ok (.putfield 74, 3) := by decide +kernel
theorem dX12_init_179 : decode cX12_init 179 = .ok (.aload_n 0, 1) := by decide +kernel
theorem dX12_init_180 : decode cX12_init 180 = .ok (.bipush 32, 2) := by decide +kernel
theorem dX12_init_182 : decode cX12_init 182 = .ok (.newarray .int, 2) := by decide +kernel
theorem dX12_init_184 : decode cX12_init 184 = .ok (.putfield 77, 3) := by decide +kernel
theorem dX12_init_187 : decode cX12_init 187 = .ok (.aload_n 0, 1) := by decide +kernel
theorem dX12_init_188 : decode cX12_init 188 = .ok (.bipush 8, 2) := by decide +kernel
theorem dX12_init_190 : decode cX12_init 190 = .ok (.newarray .int, 2) := by decide +kernel
theorem dX12_init_192 : decode cX12_init 192 = .ok (.putfield 80, 3) := by decide +kernel
theorem dX12_init_195 : decode cX12_init 195 = .ok (.aload_n 0, 1) := by decide +kernel
theorem dX12_init_196 : decode cX12_init 196 = .ok (.bipush 8, 2) := by decide +kernel
theorem dX12_init_198 : decode cX12_init 198 = .ok (.newarray .int, 2) := by decide +kernel
theorem dX12_init_200 : decode cX12_init 200 = .ok (.putfield 83, 3) := by decide +kernel
theorem dX12_init_203 : decode cX12_init 203 = .ok (.aload_n 0, 1) := by decide +kernel
theorem dX12_init_204 : decode cX12_init 204 = .ok (.bipush 64, 2) := by decide +kernel
theorem dX12_init_206 : decode cX12_init 206 = .ok (.newarray .int, 2) := by decide +kernel
theorem dX12_init_208 : decode cX12_init 208 = .ok (.putfield 86, 3) := by decide +kernel
theorem dX12_init_211 : decode cX12_init 211 = .ok (.aload_n 0, 1) := by decide +kernel
theorem dX12_init_212 : decode cX12_init 212 = .ok (.bipush 64, 2) := by decide +kernel
theorem dX12_init_214 : decode cX12_init 214 = .ok (.newarray .int, 2) := by decide +kernel
theorem dX12_init_216 : decode cX12_init 216 = .ok (.putfield 89, 3) := by decide +kernel
theorem dX12_init_219 : decode cX12_init 219 = .ok (.aload_n 0, 1) := by decide +kernel
theorem dX12_init_220 : decode cX12_init 220 = .ok (.bipush 64, 2) := by decide +kernel
theorem dX12_init_222 : decode cX12_init 222 = .ok (.newarray .int, 2) := by decide +kernel
theorem dX12_init_224 : decode cX12_init 224 = .ok (.putfield 92, 3) := by decide +kernel
theorem dX12_init_227 : decode cX12_init 227 = .ok (.iconst 0, 1) := by decide +kernel
theorem dX12_init_228 : decode cX12_init 228 = .ok (.istore_n 1, 1) := by decide +kernel
theorem dX12_init_229 : decode cX12_init 229 = .ok (.iload_n 1, 1) := by decide +kernel
theorem dX12_init_230 : decode cX12_init 230 = .ok (.iconst 4, 1) := by decide +kernel
theorem dX12_init_231 : decode cX12_init 231 = .ok (.if_icmp .ge 16, 3) := by decide +kernel
theorem dX12_init_234 : decode cX12_init 234 = .ok (.aload_n 0, 1) := by decide +kernel
theorem dX12_init_235 : decode cX12_init 235 = .ok (.getfield 29, 3) := by decide +kernel
theorem dX12_init_238 : decode cX12_init 238 = .ok (.iload_n 1, 1) := by decide +kernel
theorem dX12_init_239 : decode cX12_init 239 = .ok (.iconst (-1), 1) := by decide +kernel
theorem dX12_init_240 : decode cX12_init 240 = .ok (.iastore, 1) := by decide +kernel
theorem dX12_init_241 : decode cX12_init 241 = .ok (.iinc 1 1, 3) := by decide +kernel
theorem dX12_init_244 : decode cX12_init 244 = .ok (.goto (-15), 3) := by decide +kernel
theorem dX12_init_247 : decode cX12_init 247 = .ok (.aload_n 0, 1) := by decide +kernel
theorem dX12_init_248 : decode cX12_init 248 = .ok (.iconst 0, 1) := by decide +kernel
theorem dX12_init_249 : decode cX12_init 249 = .ok (.putfield 95, 3) := by decide +kernel
theorem dX12_init_252 : decode cX12_init 252 = .ok (.return_, 1) := by decide +kernel
theorem dX12_in_0 : decode cX12_in 0 = .ok (.lload_n 0, 1) := by decide +kernel
theorem dX12_in_1 : decode cX12_in 1 = .ok (.lload_n 2, 1) := by decide +kernel
theorem dX12_in_2 : decode cX12_in 2 = .ok (.lcmp, 1) := by decide +kernel
theorem dX12_in_3 : decode cX12_in 3 = .ok (.ifCond .lt 14, 3) := by decide +kernel
theorem dX12_in_6 : decode cX12_in 6 = .ok (.lload_n 0, 1) := by decide +kernel
theorem dX12_in_7 : decode cX12_in 7 = .ok (.lload 4, 2) := by decide +kernel
theorem dX12_in_9 : decode cX12_in 9 = .ok (.lcmp, 1) := by decide +kernel
theorem dX12_in_10 : decode cX12_in 10 = .ok (.ifCond .gt 7, 3) := by decide +kernel
theorem dX12_in_13 : decode cX12_in 13 = .ok (.iconst 1, 1) := by decide +kernel
theorem dX12_in_14 : decode cX12_in 14 = .ok (.goto 4, 3) := by decide +kernel
theorem dX12_in_17 : decode cX12_in 17 = .ok (.iconst 0, 1) := by decide +kernel
theorem dX12_in_18 : decode cX12_in 18 = .ok (.ireturn, 1) := by decide +kernel
theorem dX12_lost_0 : decode cX12_lost 0 = .ok (.ldc2_w 99, 3) := by decide +kernel
theorem dX12_lost_3 : decode cX12_lost 3 = .ok (.lreturn, 1) := by decide +kernel
theorem dX12_refused_0 : decode cX12_refused 0 = .ok (.aload_n 0, 1) := by decide +kernel
theorem dX12_refused_1 : decode cX12_refused 1 = .ok (.iconst 0, 1) := by decide +kernel
theorem dX12_refused_2 : decode cX12_refused 2 = .ok (.putfield 101, 3) := by decide +kernel
theorem dX12_refused_5 : decode cX12_refused 5 = .ok (.iload_n 1, 1) := by decide +kernel
theorem dX12_refused_6 : decode cX12_refused 6 = .ok (.ireturn, 1) := by decide +kernel
theorem dX12_failed_0 : decode cX12_failed 0 = .ok (.aload_n 0, 1) := by decide +kernel
theorem dX12_failed_1 : decode cX12_failed 1 = .ok (.iload_n 1, 1) := by decide +kernel
theorem dX12_failed_2 : decode cX12_failed 2 = .ok (.putfield 101, 3) := by decide +kernel
theorem dX12_failed_5 : decode cX12_failed 5 = .ok (.bipush (-10), 2) := by decide +kernel
theorem dX12_failed_7 : decode cX12_failed 7 = .ok (.iload_n 1, 1) := by decide +kernel
theorem dX12_failed_8 : decode cX12_failed 8 = .ok (.isub, 1) := by decide +kernel
theorem dX12_failed_9 : decode cX12_failed 9 = .ok (.ireturn, 1) := by decide +kernel
theorem dX12_failedLong_0 : decode cX12_failedLong 0 = .ok (.aload_n 0, 1) := by decide +kernel
theorem dX12_failedLong_1 : decode cX12_failedLong 1 = .ok (.iload_n 1, 1) := by decide +kernel
theorem dX12_failedLong_2 : decode cX12_failedLong 2 = .ok (.putfield 101, 3) := by decide +kernel
theorem dX12_failedLong_5 : decode cX12_failedLong 5 = .ok (.invokestatic 104, 3) := by decide +kernel
theorem dX12_failedLong_8 : decode cX12_failedLong 8 = .ok (.lreturn, 1) := by decide +kernel
theorem dX12_noRoad_0 : decode cX12_noRoad 0 = .ok (.iload_n 1, 1) := by decide +kernel
theorem dX12_noRoad_1 : decode cX12_noRoad 1 = .ok (.i2l, 1) := by decide +kernel
theorem dX12_noRoad_2 : decode cX12_noRoad 2 = .ok (.lconst 0, 1) := by decide +kernel
theorem dX12_noRoad_3 : decode cX12_noRoad 3 = .ok (.aload_n 0, 1) := by decide +kernel
theorem dX12_noRoad_4 : decode cX12_noRoad 4 = .ok (.getfield 108, 3) := by decide +kernel
theorem dX12_noRoad_7 : decode cX12_noRoad 7 = .ok (.i2l, 1) := by decide +kernel
theorem dX12_noRoad_8 : decode cX12_noRoad 8 = .ok (.lconst 1, 1) := by decide +kernel
theorem dX12_noRoad_9 : decode cX12_noRoad 9 = .ok (.lsub, 1) := by decide +kernel
theorem dX12_noRoad_10 : decode cX12_noRoad 10 = .ok (.invokestatic 111, 3) := by decide +kernel
theorem dX12_noRoad_13 : decode cX12_noRoad 13 = .ok (.ifCond .ne 7, 3) := by decide +kernel
theorem dX12_noRoad_16 : decode cX12_noRoad 16 = .ok (.iconst 1, 1) := by decide +kernel
theorem dX12_noRoad_17 : decode cX12_noRoad 17 = .ok (.goto 4, 3) := by decide +kernel
theorem dX12_noRoad_20 : decode cX12_noRoad 20 = .ok (.iconst 0, 1) := by decide +kernel
theorem dX12_noRoad_21 : decode cX12_noRoad 21 = .ok (.ireturn, 1) := by decide +kernel
theorem dX12_isSpot_0 : decode cX12_isSpot 0 = .ok (.iload_n 0, 1) := by decide +kernel
theorem dX12_isSpot_1 : decode cX12_isSpot 1 = .ok (.i2l, 1) := by decide +kernel
theorem dX12_isSpot_2 : decode cX12_isSpot 2 = .ok (.lconst 0, 1) := by decide +kernel
theorem dX12_isSpot_3 : decode cX12_isSpot 3 = .ok (.ldc2_w 115, 3) := by decide +kernel
theorem dX12_isSpot_6 : decode cX12_isSpot 6 = .ok (.invokestatic 111, 3) := by decide +kernel
theorem dX12_isSpot_9 : decode cX12_isSpot 9 = .ok (.ireturn, 1) := by decide +kernel
theorem dX12_road_0 : decode cX12_road 0 = .ok (.iload_n 1, 1) := by decide +kernel
theorem dX12_road_1 : decode cX12_road 1 = .ok (.invokestatic 117, 3) := by decide +kernel
theorem dX12_road_4 : decode cX12_road 4 = .ok (.ifCond .eq 10, 3) := by decide +kernel
theorem dX12_road_7 : decode cX12_road 7 = .ok (.iload_n 2, 1) := by decide +kernel
theorem dX12_road_8 : decode cX12_road 8 = .ok (.invokestatic 117, 3) := by decide +kernel
theorem dX12_road_11 : decode cX12_road 11 = .ok (.ifCond .ne 5, 3) := by decide +kernel
theorem dX12_road_14 : decode cX12_road 14 = .ok (.iconst (-1), 1) := by decide +kernel
theorem dX12_road_15 : decode cX12_road 15 = .ok (.ireturn, 1) := by decide +kernel
theorem dX12_road_16 : decode cX12_road 16 = .ok (.iload_n 1, 1) := by decide +kernel
theorem dX12_road_17 : decode cX12_road 17 = .ok (.iload_n 2, 1) := by decide +kernel
theorem dX12_road_18 : decode cX12_road 18 = .ok (.if_icmp .eq 28, 3) := by decide +kernel
theorem dX12_road_21 : decode cX12_road 21 = .ok (.iload_n 3, 1) := by decide +kernel
theorem dX12_road_22 : decode cX12_road 22 = .ok (.i2l, 1) := by decide +kernel
theorem dX12_road_23 : decode cX12_road 23 = .ok (.lconst 1, 1) := by decide +kernel
theorem dX12_road_24 : decode cX12_road 24 = .ok (.ldc2_w 121, 3) := by decide +kernel
theorem dX12_road_27 : decode cX12_road 27 = .ok (.invokestatic 111, 3) := by decide +kernel
theorem dX12_road_30 : decode cX12_road 30 = .ok (.ifCond .eq 16, 3) := by decide +kernel
theorem dX12_road_33 : decode cX12_road 33 = .ok (.iload 4, 2) := by decide +kernel
theorem dX12_road_35 : decode cX12_road 35 = .ok (.i2l, 1) := by decide +kernel
theorem dX12_road_36 : decode cX12_road 36 = .ok (.lconst 0, 1) := by decide +kernel
theorem dX12_road_37 : decode cX12_road 37 = .ok (.ldc2_w 123, 3) := by decide +kernel
theorem dX12_road_40 : decode cX12_road 40 = .ok (.invokestatic 111, 3) := by decide +kernel
theorem dX12_road_43 : decode cX12_road 43 = .ok (.ifCond .ne 6, 3) := by decide +kernel
theorem dX12_road_46 : decode cX12_road 46 = .ok (.bipush (-2), 2) := by decide +kernel
theorem dX12_road_48 : decode cX12_road 48 = .ok (.ireturn, 1) := by decide +kernel
theorem dX12_road_49 : decode cX12_road 49 = .ok (.aload_n 0, 1) := by decide +kernel
theorem dX12_road_50 : decode cX12_road 50 = .ok (.getfield 108, 3) := by decide +kernel
theorem dX12_road_53 : decode cX12_road 53 = .ok (.bipush 16, 2) := by decide +kernel
theorem dX12_road_55 : decode cX12_road 55 = .ok (.if_icmp .ne 6, 3) := by decide +kernel
theorem dX12_road_58 : decode cX12_road 58 = .ok (.bipush (-4), 2) := by decide +kernel
theorem dX12_road_60 : decode cX12_road 60 = .ok (.ireturn, 1) := by decide +kernel
theorem dX12_road_61 : decode cX12_road 61 = .ok (.aload_n 0, 1) := by decide +kernel
theorem dX12_road_62 : decode cX12_road 62 = .ok (.getfield 7, 3) := by decide +kernel
theorem dX12_road_65 : decode cX12_road 65 = .ok (.aload_n 0, 1) := by decide +kernel
theorem dX12_road_66 : decode cX12_road 66 = .ok (.getfield 108, 3) := by decide +kernel
theorem dX12_road_69 : decode cX12_road 69 = .ok (.iload_n 1, 1) := by decide +kernel
theorem dX12_road_70 : decode cX12_road 70 = .ok (.iastore, 1) := by decide +kernel
theorem dX12_road_71 : decode cX12_road 71 = .ok (.aload_n 0, 1) := by decide +kernel
theorem dX12_road_72 : decode cX12_road 72 = .ok (.getfield 13, 3) := by decide +kernel
theorem dX12_road_75 : decode cX12_road 75 = .ok (.aload_n 0, 1) := by decide +kernel
theorem dX12_road_76 : decode cX12_road 76 = .ok (.getfield 108, 3) := by decide +kernel
theorem dX12_road_79 : decode cX12_road 79 = .ok (.iload_n 2, 1) := by decide +kernel
theorem dX12_road_80 : decode cX12_road 80 = .ok (.iastore, 1) := by decide +kernel
theorem dX12_road_81 : decode cX12_road 81 = .ok (.aload_n 0, 1) := by decide +kernel
theorem dX12_road_82 : decode cX12_road 82 = .ok (.getfield 16, 3) := by decide +kernel
theorem dX12_road_85 : decode cX12_road 85 = .ok (.aload_n 0, 1) := by decide +kernel
theorem dX12_road_86 : decode cX12_road 86 = .ok (.getfield 108, 3) := by decide +kernel
theorem dX12_road_89 : decode cX12_road 89 = .ok (.iload_n 3, 1) := by decide +kernel
theorem dX12_road_90 : decode cX12_road 90 = .ok (.iastore, 1) := by decide +kernel
theorem dX12_road_91 : decode cX12_road 91 = .ok (.aload_n 0, 1) := by decide +kernel
theorem dX12_road_92 : decode cX12_road 92 = .ok (.getfield 19, 3) := by decide +kernel
theorem dX12_road_95 : decode cX12_road 95 = .ok (.aload_n 0, 1) := by decide +kernel
theorem dX12_road_96 : decode cX12_road 96 = .ok (.getfield 108, 3) := by decide +kernel
theorem dX12_road_99 : decode cX12_road 99 = .ok (.iload 4, 2) := by decide +kernel
theorem dX12_road_101 : decode cX12_road 101 = .ok (.iastore, 1) := by decide +kernel
theorem dX12_road_102 : decode cX12_road 102 = .ok (.aload_n 0, 1) := by decide +kernel
theorem dX12_road_103 : decode cX12_road 103 = .ok (.dup, 1) := by decide +kernel
theorem dX12_road_104 : decode cX12_road 104 = .ok (.getfield 108, 3) := by decide +kernel
theorem dX12_road_107 : decode cX12_road 107 = .ok (.iconst 1, 1) := by decide +kernel
theorem dX12_road_108 : decode cX12_road 108 = .ok (.iadd, 1) := by decide +kernel
theorem dX12_road_109 : decode cX12_road 109 = .ok (.putfield 108, 3) := by decide +kernel
theorem dX12_road_112 : decode cX12_road 112 = .ok (.aload_n 0, 1) := by decide +kernel
theorem dX12_road_113 : decode cX12_road 113 = .ok (.getfield 108, 3) := by decide +kernel
theorem dX12_road_116 : decode cX12_road 116 = .ok (.iconst 1, 1) := by decide +kernel
theorem dX12_road_117 : decode cX12_road 117 = .ok (.isub, 1) := by decide +kernel
theorem dX12_road_118 : decode cX12_road 118 = .ok (.ireturn, 1) := by decide +kernel
theorem dX12_shut_0 : decode cX12_shut 0 = .ok (.aload_n 0, 1) := by decide +kernel
theorem dX12_shut_1 : decode cX12_shut 1 = .ok (.iload_n 1, 1) := by decide +kernel
theorem dX12_shut_2 : decode cX12_shut 2 = .ok (.invokevirtual 125, 3) := by decide +kernel
theorem dX12_shut_5 : decode cX12_shut 5 = .ok (.ifCond .eq 5, 3) := by decide +kernel
theorem dX12_shut_8 : decode cX12_shut 8 = .ok (.iconst (-1), 1) := by decide +kernel
theorem dX12_shut_9 : decode cX12_shut 9 = .ok (.ireturn, 1) := by decide +kernel
theorem dX12_shut_10 : decode cX12_shut 10 = .ok (.aload_n 0, 1) := by decide +kernel
theorem dX12_shut_11 : decode cX12_shut 11 = .ok (.getfield 22, 3) := by decide +kernel
theorem dX12_shut_14 : decode cX12_shut 14 = .ok (.iload_n 1, 1) := by decide +kernel
theorem dX12_shut_15 : decode cX12_shut 15 = .ok (.baload, 1) := by decide +kernel
theorem dX12_shut_16 : decode cX12_shut 16 = .ok (.iload_n 2, 1) := by decide +kernel
theorem dX12_shut_17 : decode cX12_shut 17 = .ok (.if_icmp .eq 7, 3) := by decide +kernel
theorem dX12_shut_20 : decode cX12_shut 20 = .ok (.iconst 1, 1) := by decide +kernel
theorem dX12_shut_21 : decode cX12_shut 21 = .ok (.goto 4, 3) := by decide +kernel
theorem dX12_shut_24 : decode cX12_shut 24 = .ok (.iconst 0, 1) := by decide +kernel
theorem dX12_shut_25 : decode cX12_shut 25 = .ok (.istore_n 3, 1) := by decide +kernel
theorem dX12_shut_26 : decode cX12_shut 26 = .ok (.aload_n 0, 1) := by decide +kernel
theorem dX12_shut_27 : decode cX12_shut 27 = .ok (.getfield 22, 3) := by decide +kernel
theorem dX12_shut_30 : decode cX12_shut 30 = .ok (.iload_n 1, 1) := by decide +kernel
theorem dX12_shut_31 : decode cX12_shut 31 = .ok (.iload_n 2, 1) := by decide +kernel
theorem dX12_shut_32 : decode cX12_shut 32 = .ok (.bastore, 1) := by decide +kernel
theorem dX12_shut_33 : decode cX12_shut 33 = .ok (.iload_n 3, 1) := by decide +kernel
theorem dX12_shut_34 : decode cX12_shut 34 = .ok (.ifCond .eq 7, 3) := by decide +kernel
theorem dX12_shut_37 : decode cX12_shut 37 = .ok (.iconst 1, 1) := by decide +kernel
theorem dX12_shut_38 : decode cX12_shut 38 = .ok (.goto 4, 3) := by decide +kernel
theorem dX12_shut_41 : decode cX12_shut 41 = .ok (.iconst 0, 1) := by decide +kernel
theorem dX12_shut_42 : decode cX12_shut 42 = .ok (.ireturn, 1) := by decide +kernel
theorem dX12_wet_0 : decode cX12_wet 0 = .ok (.aload_n 0, 1) := by decide +kernel
theorem dX12_wet_1 : decode cX12_wet 1 = .ok (.iload_n 1, 1) := by decide +kernel
theorem dX12_wet_2 : decode cX12_wet 2 = .ok (.invokevirtual 125, 3) := by decide +kernel
theorem dX12_wet_5 : decode cX12_wet 5 = .ok (.ifCond .eq 9, 3) := by decide +kernel
theorem dX12_wet_8 : decode cX12_wet 8 = .ok (.aload_n 0, 1) := by decide +kernel
theorem dX12_wet_9 : decode cX12_wet 9 = .ok (.iconst (-1), 1) := by decide +kernel
theorem dX12_wet_10 : decode cX12_wet 10 = .ok (.invokevirtual 128, 3) := by decide +kernel
theorem dX12_wet_13 : decode cX12_wet 13 = .ok (.ireturn, 1) := by decide +kernel
theorem dX12_wet_14 : decode cX12_wet 14 = .ok (.aload_n 0, 1) := by decide +kernel
theorem dX12_wet_15 : decode cX12_wet 15 = .ok (.getfield 19, 3) := by decide +kernel
theorem dX12_wet_18 : decode cX12_wet 18 = .ok (.iload_n 1, 1) := by decide +kernel
theorem dX12_wet_19 : decode cX12_wet 19 = .ok (.iaload, 1) := by decide +kernel
theorem dX12_wet_20 : decode cX12_wet 20 = .ok (.iconst 2, 1) := by decide +kernel
theorem dX12_wet_21 : decode cX12_wet 21 = .ok (.if_icmp .eq 9, 3) := by decide +kernel
theorem dX12_wet_24 : decode cX12_wet 24 = .ok (.aload_n 0, 1) := by decide +kernel
theorem dX12_wet_25 : decode cX12_wet 25 = .ok (.iconst 2, 1) := by decide +kernel
theorem dX12_wet_26 : decode cX12_wet 26 = .ok (.invokevirtual 132, 3) := by decide +kernel
theorem dX12_wet_29 : decode cX12_wet 29 = .ok (.ireturn, 1) := by decide +kernel
theorem dX12_wet_30 : decode cX12_wet 30 = .ok (.aload_n 0, 1) := by decide +kernel
theorem dX12_wet_31 : decode cX12_wet 31 = .ok (.getfield 26, 3) := by decide +kernel
theorem dX12_wet_34 : decode cX12_wet 34 = .ok (.iload_n 1, 1) := by decide +kernel
theorem dX12_wet_35 : decode cX12_wet 35 = .ok (.baload, 1) := by decide +kernel
theorem dX12_wet_36 : decode cX12_wet 36 = .ok (.iload_n 2, 1) := by decide +kernel
theorem dX12_wet_37 : decode cX12_wet 37 = .ok (.if_icmp .eq 7, 3) := by decide +kernel
theorem dX12_wet_40 : decode cX12_wet 40 = .ok (.iconst 1, 1) := by decide +kernel
theorem dX12_wet_41 : decode cX12_wet 41 = .ok (.goto 4, 3) := by decide +kernel
theorem dX12_wet_44 : decode cX12_wet 44 = .ok (.iconst 0, 1) := by decide +kernel
theorem dX12_wet_45 : decode cX12_wet 45 = .ok (.istore_n 3, 1) := by decide +kernel
theorem dX12_wet_46 : decode cX12_wet 46 = .ok (.aload_n 0, 1) := by decide +kernel
theorem dX12_wet_47 : decode cX12_wet 47 = .ok (.getfield 26, 3) := by decide +kernel
theorem dX12_wet_50 : decode cX12_wet 50 = .ok (.iload_n 1, 1) := by decide +kernel
theorem dX12_wet_51 : decode cX12_wet 51 = .ok (.iload_n 2, 1) := by decide +kernel
theorem dX12_wet_52 : decode cX12_wet 52 = .ok (.bastore, 1) := by decide +kernel
theorem dX12_wet_53 : decode cX12_wet 53 = .ok (.aload_n 0, 1) := by decide +kernel
theorem dX12_wet_54 : decode cX12_wet 54 = .ok (.iload_n 3, 1) := by decide +kernel
theorem dX12_wet_55 : decode cX12_wet 55 = .ok (.ifCond .eq 7, 3) := by decide +kernel
theorem dX12_wet_58 : decode cX12_wet 58 = .ok (.iconst 1, 1) := by decide +kernel
theorem dX12_wet_59 : decode cX12_wet 59 = .ok (.goto 4, 3) := by decide +kernel
theorem dX12_wet_62 : decode cX12_wet 62 = .ok (.iconst 0, 1) := by decide +kernel
theorem dX12_wet_63 : decode cX12_wet 63 = .ok (.invokevirtual 128, 3) := by decide +kernel
theorem dX12_wet_66 : decode cX12_wet 66 = .ok (.ireturn, 1) := by decide +kernel
theorem dX12_leads_0 : decode cX12_leads 0 = .ok (.aload_n 0, 1) := by decide +kernel
theorem dX12_leads_1 : decode cX12_leads 1 = .ok (.getfield 22, 3) := by decide +kernel
theorem dX12_leads_4 : decode cX12_leads 4 = .ok (.iload_n 1, 1) := by decide +kernel
theorem dX12_leads_5 : decode cX12_leads 5 = .ok (.baload, 1) := by decide +kernel
theorem dX12_leads_6 : decode cX12_leads 6 = .ok (.ifCond .ne 12, 3) := by decide +kernel
theorem dX12_leads_9 : decode cX12_leads 9 = .ok (.aload_n 0, 1) := by decide +kernel
theorem dX12_leads_10 : decode cX12_leads 10 = .ok (.getfield 26, 3) := by decide +kernel
theorem dX12_leads_13 : decode cX12_leads 13 = .ok (.iload_n 1, 1) := by decide +kernel
theorem dX12_leads_14 : decode cX12_leads 14 = .ok (.baload, 1) := by decide +kernel
theorem dX12_leads_15 : decode cX12_leads 15 = .ok (.ifCond .eq 5, 3) := by decide +kernel
theorem dX12_leads_18 : decode cX12_leads 18 = .ok (.iconst (-1), 1) := by decide +kernel
theorem dX12_leads_19 : decode cX12_leads 19 = .ok (.ireturn, 1) := by decide +kernel
theorem dX12_leads_20 : decode cX12_leads 20 = .ok (.aload_n 0, 1) := by decide +kernel
theorem dX12_leads_21 : decode cX12_leads 21 = .ok (.getfield 7, 3) := by decide +kernel
theorem dX12_leads_24 : decode cX12_leads 24 = .ok (.iload_n 1, 1) := by decide +kernel
theorem dX12_leads_25 : decode cX12_leads 25 = .ok (.iaload, 1) := by decide +kernel
theorem dX12_leads_26 : decode cX12_leads 26 = .ok (.iload_n 2, 1) := by decide +kernel
theorem dX12_leads_27 : decode cX12_leads 27 = .ok (.if_icmp .ne 12, 3) := by decide +kernel
theorem dX12_leads_30 : decode cX12_leads 30 = .ok (.aload_n 0, 1) := by decide +kernel
theorem dX12_leads_31 : decode cX12_leads 31 = .ok (.getfield 13, 3) := by decide +kernel
theorem dX12_leads_34 : decode cX12_leads 34 = .ok (.iload_n 1, 1) := by decide +kernel
theorem dX12_leads_35 : decode cX12_leads 35 = .ok (.iaload, 1) := by decide +kernel
theorem dX12_leads_36 : decode cX12_leads 36 = .ok (.goto 33, 3) := by decide +kernel
theorem dX12_leads_39 : decode cX12_leads 39 = .ok (.aload_n 0, 1) := by decide +kernel
theorem dX12_leads_40 : decode cX12_leads 40 = .ok (.getfield 13, 3) := by decide +kernel
theorem dX12_leads_43 : decode cX12_leads 43 = .ok (.iload_n 1, 1) := by decide +kernel
theorem dX12_leads_44 : decode cX12_leads 44 = .ok (.iaload, 1) := by decide +kernel
theorem dX12_leads_45 : decode cX12_leads 45 = .ok (.iload_n 2, 1) := by decide +kernel
theorem dX12_leads_46 : decode cX12_leads 46 = .ok (.if_icmp .ne 22, 3) := by decide +kernel
theorem dX12_leads_49 : decode cX12_leads 49 = .ok (.aload_n 0, 1) := by decide +kernel
theorem dX12_leads_50 : decode cX12_leads 50 = .ok (.getfield 19, 3) := by decide +kernel
theorem dX12_leads_53 : decode cX12_leads 53 = .ok (.iload_n 1, 1) := by decide +kernel
theorem dX12_leads_54 : decode cX12_leads 54 = .ok (.iaload, 1) := by decide +kernel
theorem dX12_leads_55 : decode cX12_leads 55 = .ok (.iconst 1, 1) := by decide +kernel
theorem dX12_leads_56 : decode cX12_leads 56 = .ok (.if_icmp .eq 12, 3) := by decide +kernel
theorem dX12_leads_59 : decode cX12_leads 59 = .ok (.aload_n 0, 1) := by decide +kernel
theorem dX12_leads_60 : decode cX12_leads 60 = .ok (.getfield 7, 3) := by decide +kernel
theorem dX12_leads_63 : decode cX12_leads 63 = .ok (.iload_n 1, 1) := by decide +kernel
theorem dX12_leads_64 : decode cX12_leads 64 = .ok (.iaload, 1) := by decide +kernel
theorem dX12_leads_65 : decode cX12_leads 65 = .ok (.goto 4, 3) := by decide +kernel
theorem dX12_leads_68 : decode cX12_leads 68 = .ok (.iconst (-1), 1) := by decide +kernel
theorem dX12_leads_69 : decode cX12_leads 69 = .ok (.ireturn, 1) := by decide +kernel
theorem dX12_about_0 : decode cX12_about 0 = .ok (.aload_n 0, 1) := by decide +kernel
theorem dX12_about_1 : decode cX12_about 1 = .ok (.iload_n 1, 1) := by decide +kernel
theorem dX12_about_2 : decode cX12_about 2 = .ok (.invokevirtual 125, 3) := by decide +kernel
theorem dX12_about_5 : decode cX12_about 5 = .ok (.ifCond .eq 5, 3) := by decide +kernel
theorem dX12_about_8 : decode cX12_about 8 = .ok (.iconst (-1), 1) := by decide +kernel
theorem dX12_about_9 : decode cX12_about 9 = .ok (.ireturn, 1) := by decide +kernel
theorem dX12_about_10 : decode cX12_about 10 = .ok (.iload_n 2, 1) := by decide +kernel
theorem dX12_about_11 : decode cX12_about 11 = .ok (.tableswitch 120 0 5 #[37, 44, 51, 58, 65, 89], 37) := by decide +kernel
theorem dX12_about_48 : decode cX12_about 48 = .ok (.aload_n 0, 1) := by decide +kernel
theorem dX12_about_49 : decode cX12_about 49 = .ok (.getfield 7, 3) := by decide +kernel
theorem dX12_about_52 : decode cX12_about 52 = .ok (.iload_n 1, 1) := by decide +kernel
theorem dX12_about_53 : decode cX12_about 53 = .ok (.iaload, 1) := by decide +kernel
theorem dX12_about_54 : decode cX12_about 54 = .ok (.ireturn, 1) := by decide +kernel
theorem dX12_about_55 : decode cX12_about 55 = .ok (.aload_n 0, 1) := by decide +kernel
theorem dX12_about_56 : decode cX12_about 56 = .ok (.getfield 13, 3) := by decide +kernel
theorem dX12_about_59 : decode cX12_about 59 = .ok (.iload_n 1, 1) := by decide +kernel
theorem dX12_about_60 : decode cX12_about 60 = .ok (.iaload, 1) := by decide +kernel
theorem dX12_about_61 : decode cX12_about 61 = .ok (.ireturn, 1) := by decide +kernel
theorem dX12_about_62 : decode cX12_about 62 = .ok (.aload_n 0, 1) := by decide +kernel
theorem dX12_about_63 : decode cX12_about 63 = .ok (.getfield 16, 3) := by decide +kernel
theorem dX12_about_66 : decode cX12_about 66 = .ok (.iload_n 1, 1) := by decide +kernel
theorem dX12_about_67 : decode cX12_about 67 = .ok (.iaload, 1) := by decide +kernel
theorem dX12_about_68 : decode cX12_about 68 = .ok (.ireturn, 1) := by decide +kernel
theorem dX12_about_69 : decode cX12_about 69 = .ok (.aload_n 0, 1) := by decide +kernel
theorem dX12_about_70 : decode cX12_about 70 = .ok (.getfield 19, 3) := by decide +kernel
theorem dX12_about_73 : decode cX12_about 73 = .ok (.iload_n 1, 1) := by decide +kernel
theorem dX12_about_74 : decode cX12_about 74 = .ok (.iaload, 1) := by decide +kernel
theorem dX12_about_75 : decode cX12_about 75 = .ok (.ireturn, 1) := by decide +kernel
theorem dX12_about_76 : decode cX12_about 76 = .ok (.aload_n 0, 1) := by decide +kernel
theorem dX12_about_77 : decode cX12_about 77 = .ok (.getfield 22, 3) := by decide +kernel
theorem dX12_about_80 : decode cX12_about 80 = .ok (.iload_n 1, 1) := by decide +kernel
theorem dX12_about_81 : decode cX12_about 81 = .ok (.baload, 1) := by decide +kernel
theorem dX12_about_82 : decode cX12_about 82 = .ok (.ifCond .ne 12, 3) := by decide +kernel
theorem dX12_about_85 : decode cX12_about 85 = .ok (.aload_n 0, 1) := by decide +kernel
theorem dX12_about_86 : decode cX12_about 86 = .ok (.getfield 26, 3) := by decide +kernel
theorem dX12_about_89 : decode cX12_about 89 = .ok (.iload_n 1, 1) := by decide +kernel
theorem dX12_about_90 : decode cX12_about 90 = .ok (.baload, 1) := by decide +kernel
theorem dX12_about_91 : decode cX12_about 91 = .ok (.ifCond .eq 7, 3) := by decide +kernel
theorem dX12_about_94 : decode cX12_about 94 = .ok (.iconst 1, 1) := by decide +kernel
theorem dX12_about_95 : decode cX12_about 95 = .ok (.goto 4, 3) := by decide +kernel
theorem dX12_about_98 : decode cX12_about 98 = .ok (.iconst 0, 1) := by decide +kernel
theorem dX12_about_99 : decode cX12_about 99 = .ok (.ireturn, 1) := by decide +kernel
theorem dX12_about_100 : decode cX12_about 100 = .ok (.iconst 0, 1) := by decide +kernel
theorem dX12_about_101 : decode cX12_about 101 = .ok (.istore_n 3, 1) := by decide +kernel
theorem dX12_about_102 : decode cX12_about 102 = .ok (.iload_n 3, 1) := by decide +kernel
theorem dX12_about_103 : decode cX12_about 103 = .ok (.aload_n 0, 1) := by decide +kernel
theorem dX12_about_104 : decode cX12_about 104 = .ok (.getfield 95, 3) := by decide +kernel
theorem dX12_about_107 : decode cX12_about 107 = .ok (.if_icmp .ge 21, 3) := by decide +kernel
theorem dX12_about_110 : decode cX12_about 110 = .ok (.aload_n 0, 1) := by decide +kernel
theorem dX12_about_111 : decode cX12_about 111 = .ok (.getfield 59, 3) := by decide +kernel
theorem dX12_about_114 : decode cX12_about 114 = .ok (.iload_n 3, 1) := by decide +kernel
theorem dX12_about_115 : decode cX12_about 115 = .ok (.iaload, 1) := by decide +kernel
theorem dX12_about_116 : decode cX12_about 116 = .ok (.iload_n 1, 1) := by decide +kernel
theorem dX12_about_117 : decode cX12_about 117 = .ok (.if_icmp .ne 5, 3) := by decide +kernel
theorem dX12_about_120 : decode cX12_about 120 = .ok (.iload_n 3, 1) := by decide +kernel
theorem dX12_about_121 : decode cX12_about 121 = .ok (.ireturn, 1) := by decide +kernel
theorem dX12_about_122 : decode cX12_about 122 = .ok (.iinc 3 1, 3) := by decide +kernel
theorem dX12_about_125 : decode cX12_about 125 = .ok (.goto (-23), 3) := by decide +kernel
theorem dX12_about_128 : decode cX12_about 128 = .ok (.bipush (-9), 2) := by decide +kernel
theorem dX12_about_130 : decode cX12_about 130 = .ok (.ireturn, 1) := by decide +kernel
theorem dX12_about_131 : decode cX12_about 131 = .ok (.bipush (-2), 2) := by decide +kernel
theorem dX12_about_133 : decode cX12_about 133 = .ok (.ireturn, 1) := by decide +kernel
theorem dX12_noSheet_0 : decode cX12_noSheet 0 = .ok (.iload_n 0, 1) := by decide +kernel
theorem dX12_noSheet_1 : decode cX12_noSheet 1 = .ok (.i2l, 1) := by decide +kernel
theorem dX12_noSheet_2 : decode cX12_noSheet 2 = .ok (.lconst 0, 1) := by decide +kernel
theorem dX12_noSheet_3 : decode cX12_noSheet 3 = .ok (.ldc2_w 135, 3) := by decide +kernel
theorem dX12_noSheet_6 : decode cX12_noSheet 6 = .ok (.invokestatic 111, 3) := by decide +kernel
theorem dX12_noSheet_9 : decode cX12_noSheet 9 = .ok (.ifCond .ne 7, 3) := by decide +kernel
theorem dX12_noSheet_12 : decode cX12_noSheet 12 = .ok (.iconst 1, 1) := by decide +kernel
theorem dX12_noSheet_13 : decode cX12_noSheet 13 = .ok (.goto 4, 3) := by decide +kernel
theorem dX12_noSheet_16 : decode cX12_noSheet 16 = .ok (.iconst 0, 1) := by decide +kernel
theorem dX12_noSheet_17 : decode cX12_noSheet 17 = .ok (.ireturn, 1) := by decide +kernel
theorem dX12_sheet_0 : decode cX12_sheet 0 = .ok (.iload_n 1, 1) := by decide +kernel
theorem dX12_sheet_1 : decode cX12_sheet 1 = .ok (.invokestatic 137, 3) := by decide +kernel
theorem dX12_sheet_4 : decode cX12_sheet 4 = .ok (.ifCond .eq 9, 3) := by decide +kernel
theorem dX12_sheet_7 : decode cX12_sheet 7 = .ok (.aload_n 0, 1) := by decide +kernel
theorem dX12_sheet_8 : decode cX12_sheet 8 = .ok (.iconst (-1), 1) := by decide +kernel
theorem dX12_sheet_9 : decode cX12_sheet 9 = .ok (.invokevirtual 128, 3) := by decide +kernel
theorem dX12_sheet_12 : decode cX12_sheet 12 = .ok (.ireturn, 1) := by decide +kernel
theorem dX12_sheet_13 : decode cX12_sheet 13 = .ok (.iload_n 2, 1) := by decide +kernel
theorem dX12_sheet_14 : decode cX12_sheet 14 = .ok (.i2l, 1) := by decide +kernel
theorem dX12_sheet_15 : decode cX12_sheet 15 = .ok (.lconst 0, 1) := by decide +kernel
theorem dX12_sheet_16 : decode cX12_sheet 16 = .ok (.ldc2_w 123, 3) := by decide +kernel
theorem dX12_sheet_19 : decode cX12_sheet 19 = .ok (.invokestatic 111, 3) := by decide +kernel
theorem dX12_sheet_22 : decode cX12_sheet 22 = .ok (.ifCond .eq 9, 3) := by decide +kernel
theorem dX12_sheet_25 : decode cX12_sheet 25 = .ok (.iload_n 3, 1) := by decide +kernel
theorem dX12_sheet_26 : decode cX12_sheet 26 = .ok (.bipush 32, 2) := by decide +kernel
theorem dX12_sheet_28 : decode cX12_sheet 28 = .ok (.if_icmp .le 10, 3) := by decide +kernel
theorem dX12_sheet_31 : decode cX12_sheet 31 = .ok (.aload_n 0, 1) := by decide +kernel
theorem dX12_sheet_32 : decode cX12_sheet 32 = .ok (.bipush (-2), 2) := by decide +kernel
theorem dX12_sheet_34 : decode cX12_sheet 34 = .ok (.invokevirtual 128, 3) := by decide +kernel
theorem dX12_sheet_37 : decode cX12_sheet 37 = .ok (.ireturn, 1) := by decide +kernel
theorem dX12_sheet_38 : decode cX12_sheet 38 = .ok (.iload_n 3, 1) := by decide +kernel
theorem dX12_sheet_39 : decode cX12_sheet 39 = .ok (.ifCond .ge 9, 3) := by decide +kernel
theorem dX12_sheet_42 : decode cX12_sheet 42 = .ok (.aload_n 0, 1) := by decide +kernel
theorem dX12_sheet_43 : decode cX12_sheet 43 = .ok (.iconst 4, 1) := by decide +kernel
theorem dX12_sheet_44 : decode cX12_sheet 44 = .ok (.invokevirtual 132, 3) := by decide +kernel
theorem dX12_sheet_47 : decode cX12_sheet 47 = .ok (.ireturn, 1) := by decide +kernel
theorem dX12_sheet_48 : decode cX12_sheet 48 = .ok (.aload_n 0, 1) := by decide +kernel
theorem dX12_sheet_49 : decode cX12_sheet 49 = .ok (.getfield 29, 3) := by decide +kernel
theorem dX12_sheet_52 : decode cX12_sheet 52 = .ok (.iload_n 1, 1) := by decide +kernel
theorem dX12_sheet_53 : decode cX12_sheet 53 = .ok (.iload_n 3, 1) := by decide +kernel
theorem dX12_sheet_54 : decode cX12_sheet 54 = .ok (.iastore, 1) := by decide +kernel
theorem dX12_sheet_55 : decode cX12_sheet 55 = .ok (.aload_n 0, 1) := by decide +kernel
theorem dX12_sheet_56 : decode cX12_sheet 56 = .ok (.getfield 32, 3) := by decide +kernel
theorem dX12_sheet_59 : decode cX12_sheet 59 = .ok (.iload_n 1, 1) := by decide +kernel
theorem dX12_sheet_60 : decode cX12_sheet 60 = .ok (.iload_n 2, 1) := by decide +kernel
theorem dX12_sheet_61 : decode cX12_sheet 61 = .ok (.iastore, 1) := by decide +kernel
theorem dX12_sheet_62 : decode cX12_sheet 62 = .ok (.iconst 0, 1) := by decide +kernel
theorem dX12_sheet_63 : decode cX12_sheet 63 = .ok (.istore 4, 2) := by decide +kernel
theorem dX12_sheet_65 : decode cX12_sheet 65 = .ok (.iload 4, 2) := by decide +kernel
theorem dX12_sheet_67 : decode cX12_sheet 67 = .ok (.iload_n 3, 1) := by decide +kernel
theorem dX12_sheet_68 : decode cX12_sheet 68 = .ok (.if_icmp .ge 22, 3) := by decide +kernel
theorem dX12_sheet_71 : decode cX12_sheet 71 = .ok (.aload_n 0, 1) := by decide +kernel
theorem dX12_sheet_72 : decode cX12_sheet 72 = .ok (.getfield 35, 3) := by decide +kernel
theorem dX12_sheet_75 : decode cX12_sheet 75 = .ok (.bipush 32, 2) := by decide +kernel
theorem dX12_sheet_77 : decode cX12_sheet 77 = .ok (.iload_n 1, 1) := by decide +kernel
theorem dX12_sheet_78 : decode cX12_sheet 78 = .ok (.imul, 1) := by decide +kernel
theorem dX12_sheet_79 : decode cX12_sheet 79 = .ok (.iload 4, 2) := by decide +kernel
theorem dX12_sheet_81 : decode cX12_sheet 81 = .ok (.iadd, 1) := by decide +kernel
theorem dX12_sheet_82 : decode cX12_sheet 82 = .ok (.iconst 0, 1) := by decide +kernel
theorem dX12_sheet_83 : decode cX12_sheet 83 = .ok (.iastore, 1) := by decide +kernel
theorem dX12_sheet_84 : decode cX12_sheet 84 = .ok (.iinc 4 1, 3) := by decide +kernel
theorem dX12_sheet_87 : decode cX12_sheet 87 = .ok (.goto (-22), 3) := by decide +kernel
theorem dX12_sheet_90 : decode cX12_sheet 90 = .ok (.aload_n 0, 1) := by decide +kernel
theorem dX12_sheet_91 : decode cX12_sheet 91 = .ok (.iconst 1, 1) := by decide +kernel
theorem dX12_sheet_92 : decode cX12_sheet 92 = .ok (.invokevirtual 128, 3) := by decide +kernel
theorem dX12_sheet_95 : decode cX12_sheet 95 = .ok (.ireturn, 1) := by decide +kernel
theorem dX12_lose_0 : decode cX12_lose 0 = .ok (.iload_n 1, 1) := by decide +kernel
theorem dX12_lose_1 : decode cX12_lose 1 = .ok (.invokestatic 137, 3) := by decide +kernel
theorem dX12_lose_4 : decode cX12_lose 4 = .ok (.ifCond .eq 5, 3) := by decide +kernel
theorem dX12_lose_7 : decode cX12_lose 7 = .ok (.iconst (-1), 1) := by decide +kernel
theorem dX12_lose_8 : decode cX12_lose 8 = .ok (.ireturn, 1) := by decide +kernel
theorem dX12_lose_9 : decode cX12_lose 9 = .ok (.aload_n 0, 1) := by decide +kernel
theorem dX12_lose_10 : decode cX12_lose 10 = .ok (.getfield 29, 3) := by decide +kernel
theorem dX12_lose_13 : decode cX12_lose 13 = .ok (.iload_n 1, 1) := by decide +kernel
theorem dX12_lose_14 : decode cX12_lose 14 = .ok (.iaload, 1) := by decide +kernel
theorem dX12_lose_15 : decode cX12_lose 15 = .ok (.ifCond .ge 7, 3) := by decide +kernel
theorem dX12_lose_18 : decode cX12_lose 18 = .ok (.iconst 0, 1) := by decide +kernel
theorem dX12_lose_19 : decode cX12_lose 19 = .ok (.goto 4, 3) := by decide +kernel
theorem dX12_lose_22 : decode cX12_lose 22 = .ok (.iconst 1, 1) := by decide +kernel
theorem dX12_lose_23 : decode cX12_lose 23 = .ok (.istore_n 2, 1) := by decide +kernel
theorem dX12_lose_24 : decode cX12_lose 24 = .ok (.aload_n 0, 1) := by decide +kernel
theorem dX12_lose_25 : decode cX12_lose 25 = .ok (.getfield 29, 3) := by decide +kernel
theorem dX12_lose_28 : decode cX12_lose 28 = .ok (.iload_n 1, 1) := by decide +kernel
theorem dX12_lose_29 : decode cX12_lose 29 = .ok (.iconst (-1), 1) := by decide +kernel
theorem dX12_lose_30 : decode cX12_lose 30 = .ok (.iastore, 1) := by decide +kernel
theorem dX12_lose_31 : decode cX12_lose 31 = .ok (.iload_n 2, 1) := by decide +kernel
theorem dX12_lose_32 : decode cX12_lose 32 = .ok (.ireturn, 1) := by decide +kernel
theorem dX12_noCell_0 : decode cX12_noCell 0 = .ok (.aload_n 0, 1) := by decide +kernel
theorem dX12_noCell_1 : decode cX12_noCell 1 = .ok (.getfield 29, 3) := by decide +kernel
theorem dX12_noCell_4 : decode cX12_noCell 4 = .ok (.iload_n 1, 1) := by decide +kernel
theorem dX12_noCell_5 : decode cX12_noCell 5 = .ok (.iaload, 1) := by decide +kernel
theorem dX12_noCell_6 : decode cX12_noCell 6 = .ok (.ifCond .ge 7, 3) := by decide +kernel
theorem dX12_noCell_9 : decode cX12_noCell 9 = .ok (.iconst 1, 1) := by decide +kernel
theorem dX12_noCell_10 : decode cX12_noCell 10 = .ok (.goto 26, 3) := by decide +kernel
theorem dX12_noCell_13 : decode cX12_noCell 13 = .ok (.iload_n 2, 1) := by decide +kernel
theorem dX12_noCell_14 : decode cX12_noCell 14 = .ok (.i2l, 1) := by decide +kernel
theorem dX12_noCell_15 : decode cX12_noCell 15 = .ok (.lconst 0, 1) := by decide +kernel
theorem dX12_noCell_16 : decode cX12_noCell 16 = .ok (.aload_n 0, 1) := by decide +kernel
theorem dX12_noCell_17 : decode cX12_noCell 17 = .ok (.getfield 29, 3) := by decide +kernel
theorem dX12_noCell_20 : decode cX12_noCell 20 = .ok (.iload_n 1, 1) := by decide +kernel
theorem dX12_noCell_21 : decode cX12_noCell 21 = .ok (.iaload, 1) := by decide +kernel
theorem dX12_noCell_22 : decode cX12_noCell 22 = .ok (.i2l, 1) := by decide +kernel
theorem dX12_noCell_23 : decode cX12_noCell 23 = .ok (.lconst 1, 1) := by decide +kernel
theorem dX12_noCell_24 : decode cX12_noCell 24 = .ok (.lsub, 1) := by decide +kernel
theorem dX12_noCell_25 : decode cX12_noCell 25 = .ok (.invokestatic 111, 3) := by decide +kernel
theorem dX12_noCell_28 : decode cX12_noCell 28 = .ok (.ifCond .eq 7, 3) := by decide +kernel
theorem dX12_noCell_31 : decode cX12_noCell 31 = .ok (.iconst 0, 1) := by decide +kernel
theorem dX12_noCell_32 : decode cX12_noCell 32 = .ok (.goto 4, 3) := by decide +kernel
theorem dX12_noCell_35 : decode cX12_noCell 35 = .ok (.iconst 3, 1) := by decide +kernel
theorem dX12_noCell_36 : decode cX12_noCell 36 = .ok (.ireturn, 1) := by decide +kernel
theorem dX12_put_0 : decode cX12_put 0 = .ok (.iload_n 1, 1) := by decide +kernel
theorem dX12_put_1 : decode cX12_put 1 = .ok (.invokestatic 137, 3) := by decide +kernel
theorem dX12_put_4 : decode cX12_put 4 = .ok (.ifCond .eq 9, 3) := by decide +kernel
theorem dX12_put_7 : decode cX12_put 7 = .ok (.aload_n 0, 1) := by decide +kernel
theorem dX12_put_8 : decode cX12_put 8 = .ok (.iconst (-1), 1) := by decide +kernel
theorem dX12_put_9 : decode cX12_put 9 = .ok (.invokevirtual 128, 3) := by decide +kernel
theorem dX12_put_12 : decode cX12_put 12 = .ok (.ireturn, 1) := by decide +kernel
theorem dX12_put_13 : decode cX12_put 13 = .ok (.aload_n 0, 1) := by decide +kernel
theorem dX12_put_14 : decode cX12_put 14 = .ok (.iload_n 1, 1) := by decide +kernel
theorem dX12_put_15 : decode cX12_put 15 = .ok (.iload_n 2, 1) := by decide +kernel
theorem dX12_put_16 : decode cX12_put 16 = .ok (.invokevirtual 140, 3) := by decide +kernel
theorem dX12_put_19 : decode cX12_put 19 = .ok (.ifCond .le 14, 3) := by decide +kernel
theorem dX12_put_22 : decode cX12_put 22 = .ok (.aload_n 0, 1) := by decide +kernel
theorem dX12_put_23 : decode cX12_put 23 = .ok (.aload_n 0, 1) := by decide +kernel
theorem dX12_put_24 : decode cX12_put 24 = .ok (.iload_n 1, 1) := by decide +kernel
theorem dX12_put_25 : decode cX12_put 25 = .ok (.iload_n 2, 1) := by decide +kernel
theorem dX12_put_26 : decode cX12_put 26 = .ok (.invokevirtual 140, 3) := by decide +kernel
theorem dX12_put_29 : decode cX12_put 29 = .ok (.invokevirtual 132, 3) := by decide +kernel
theorem dX12_put_32 : decode cX12_put 32 = .ok (.ireturn, 1) := by decide +kernel
theorem dX12_put_33 : decode cX12_put 33 = .ok (.aload_n 0, 1) := by decide +kernel
theorem dX12_put_34 : decode cX12_put 34 = .ok (.getfield 35, 3) := by decide +kernel
theorem dX12_put_37 : decode cX12_put 37 = .ok (.bipush 32, 2) := by decide +kernel
theorem dX12_put_39 : decode cX12_put 39 = .ok (.iload_n 1, 1) := by decide +kernel
theorem dX12_put_40 : decode cX12_put 40 = .ok (.imul, 1) := by decide +kernel
theorem dX12_put_41 : decode cX12_put 41 = .ok (.iload_n 2, 1) := by decide +kernel
theorem dX12_put_42 : decode cX12_put 42 = .ok (.iadd, 1) := by decide +kernel
theorem dX12_put_43 : decode cX12_put 43 = .ok (.aload_n 0, 1) := by decide +kernel
theorem dX12_put_44 : decode cX12_put 44 = .ok (.getfield 32, 3) := by decide +kernel
theorem dX12_put_47 : decode cX12_put 47 = .ok (.iload_n 1, 1) := by decide +kernel
theorem dX12_put_48 : decode cX12_put 48 = .ok (.iaload, 1) := by decide +kernel
theorem dX12_put_49 : decode cX12_put 49 = .ok (.ifCond .ne 8, 3) := by decide +kernel
theorem dX12_put_52 : decode cX12_put 52 = .ok (.iload_n 3, 1) := by decide +kernel
theorem dX12_put_53 : decode cX12_put 53 = .ok (.i2b, 1) := by decide +kernel
theorem dX12_put_54 : decode cX12_put 54 = .ok (.goto 19, 3) := by decide +kernel
theorem dX12_put_57 : decode cX12_put 57 = .ok (.aload_n 0, 1) := by decide +kernel
theorem dX12_put_58 : decode cX12_put 58 = .ok (.getfield 32, 3) := by decide +kernel
theorem dX12_put_61 : decode cX12_put 61 = .ok (.iload_n 1, 1) := by decide +kernel
theorem dX12_put_62 : decode cX12_put 62 = .ok (.iaload, 1) := by decide +kernel
theorem dX12_put_63 : decode cX12_put 63 = .ok (.iconst 1, 1) := by decide +kernel
theorem dX12_put_64 : decode cX12_put 64 = .ok (.if_icmp .ne 8, 3) := by decide +kernel
theorem dX12_put_67 : decode cX12_put 67 = .ok (.iload_n 3, 1) := by decide +kernel
theorem dX12_put_68 : decode cX12_put 68 = .ok (.i2s, 1) := by decide +kernel
theorem dX12_put_69 : decode cX12_put 69 = .ok (.goto 4, 3) := by decide +kernel
theorem dX12_put_72 : decode cX12_put 72 = .ok (.iload_n 3, 1) := by decide +kernel
theorem dX12_put_73 : decode cX12_put 73 = .ok (.iastore, 1) := by decide +kernel
theorem dX12_put_74 : decode cX12_put 74 = .ok (.aload_n 0, 1) := by decide +kernel
theorem dX12_put_75 : decode cX12_put 75 = .ok (.iconst 1, 1) := by decide +kernel
theorem dX12_put_76 : decode cX12_put 76 = .ok (.invokevirtual 128, 3) := by decide +kernel
theorem dX12_put_79 : decode cX12_put 79 = .ok (.ireturn, 1) := by decide +kernel
theorem dX12_cell_0 : decode cX12_cell 0 = .ok (.aload_n 0, 1) := by decide +kernel
theorem dX12_cell_1 : decode cX12_cell 1 = .ok (.iconst 0, 1) := by decide +kernel
theorem dX12_cell_2 : decode cX12_cell 2 = .ok (.putfield 101, 3) := by decide +kernel
theorem dX12_cell_5 : decode cX12_cell 5 = .ok (.iload_n 1, 1) := by decide +kernel
theorem dX12_cell_6 : decode cX12_cell 6 = .ok (.invokestatic 137, 3) := by decide +kernel
theorem dX12_cell_9 : decode cX12_cell 9 = .ok (.ifCond .ne 15, 3) := by decide +kernel
theorem dX12_cell_12 : decode cX12_cell 12 = .ok (.iload_n 3, 1) := by decide +kernel
theorem dX12_cell_13 : decode cX12_cell 13 = .ok (.i2l, 1) := by decide +kernel
theorem dX12_cell_14 : decode cX12_cell 14 = .ok (.lconst 0, 1) := by decide +kernel
theorem dX12_cell_15 : decode cX12_cell 15 = .ok (.ldc2_w 123, 3) := by decide +kernel
theorem dX12_cell_18 : decode cX12_cell 18 = .ok (.invokestatic 111, 3) := by decide +kernel
theorem dX12_cell_21 : decode cX12_cell 21 = .ok (.ifCond .ne 7, 3) := by decide +kernel
theorem dX12_cell_24 : decode cX12_cell 24 = .ok (.invokestatic 104, 3) := by decide +kernel
theorem dX12_cell_27 : decode cX12_cell 27 = .ok (.lreturn, 1) := by decide +kernel
theorem dX12_cell_28 : decode cX12_cell 28 = .ok (.aload_n 0, 1) := by decide +kernel
theorem dX12_cell_29 : decode cX12_cell 29 = .ok (.getfield 29, 3) := by decide +kernel
theorem dX12_cell_32 : decode cX12_cell 32 = .ok (.iload_n 1, 1) := by decide +kernel
theorem dX12_cell_33 : decode cX12_cell 33 = .ok (.iaload, 1) := by decide +kernel
theorem dX12_cell_34 : decode cX12_cell 34 = .ok (.ifCond .lt 19, 3) := by decide +kernel
theorem dX12_cell_37 : decode cX12_cell 37 = .ok (.aload_n 0, 1) := by decide +kernel
theorem dX12_cell_38 : decode cX12_cell 38 = .ok (.getfield 32, 3) := by decide +kernel
theorem dX12_cell_41 : decode cX12_cell 41 = .ok (.iload_n 1, 1) := by decide +kernel
theorem dX12_cell_42 : decode cX12_cell 42 = .ok (.iaload, 1) := by decide +kernel
theorem dX12_cell_43 : decode cX12_cell 43 = .ok (.iload_n 3, 1) := by decide +kernel
theorem dX12_cell_44 : decode cX12_cell 44 = .ok (.if_icmp .eq 9, 3) := by decide +kernel
theorem dX12_cell_47 : decode cX12_cell 47 = .ok (.aload_n 0, 1) := by decide +kernel
theorem dX12_cell_48 : decode cX12_cell 48 = .ok (.iconst 2, 1) := by decide +kernel
theorem dX12_cell_49 : decode cX12_cell 49 = .ok (.invokevirtual 144, 3) := by decide +kernel
theorem dX12_cell_52 : decode cX12_cell 52 = .ok (.lreturn, 1) := by decide +kernel
theorem dX12_cell_53 : decode cX12_cell 53 = .ok (.aload_n 0, 1) := by decide +kernel
theorem dX12_cell_54 : decode cX12_cell 54 = .ok (.iload_n 1, 1) := by decide +kernel
theorem dX12_cell_55 : decode cX12_cell 55 = .ok (.iload_n 2, 1) := by decide +kernel
theorem dX12_cell_56 : decode cX12_cell 56 = .ok (.invokevirtual 140, 3) := by decide +kernel
theorem dX12_cell_59 : decode cX12_cell 59 = .ok (.ifCond .le 16, 3) := by decide +kernel
theorem dX12_cell_62 : decode cX12_cell 62 = .ok (.aload_n 0, 1) := by decide +kernel
theorem dX12_cell_63 : decode cX12_cell 63 = .ok (.aload_n 0, 1) := by decide +kernel
theorem dX12_cell_64 : decode cX12_cell 64 = .ok (.iload_n 1, 1) := by decide +kernel
theorem dX12_cell_65 : decode cX12_cell 65 = .ok (.iload_n 2, 1) := by decide +kernel
theorem dX12_cell_66 : decode cX12_cell 66 = .ok (.invokevirtual 140, 3) := by decide +kernel
theorem dX12_cell_69 : decode cX12_cell 69 = .ok (.invokevirtual 144, 3) := by decide +kernel
theorem dX12_cell_72 : decode cX12_cell 72 = .ok (.goto 15, 3) := by decide +kernel
theorem dX12_cell_75 : decode cX12_cell 75 = .ok (.aload_n 0, 1) := by decide +kernel
theorem dX12_cell_76 : decode cX12_cell 76 = .ok (.getfield 35, 3) := by decide +kernel
theorem dX12_cell_79 : decode cX12_cell 79 = .ok (.bipush 32, 2) := by decide +kernel
theorem dX12_cell_81 : decode cX12_cell 81 = .ok (.iload_n 1, 1) := by decide +kernel
theorem dX12_cell_82 : decode cX12_cell 82 = .ok (.imul, 1) := by decide +kernel
theorem dX12_cell_83 : decode cX12_cell 83 = .ok (.iload_n 2, 1) := by decide +kernel
theorem dX12_cell_84 : decode cX12_cell 84 = .ok (.iadd, 1) := by decide +kernel
theorem dX12_cell_85 : decode cX12_cell 85 = .ok (.iaload, 1) := by decide +kernel
theorem dX12_cell_86 : decode cX12_cell 86 = .ok (.i2l, 1) := by decide +kernel
theorem dX12_cell_87 : decode cX12_cell 87 = .ok (.lreturn, 1) := by decide +kernel
theorem dX12_isBeyond_0 : decode cX12_isBeyond 0 = .ok (.iload_n 0, 1) := by decide +kernel
theorem dX12_isBeyond_1 : decode cX12_isBeyond 1 = .ok (.ifCond .lt 18, 3) := by decide +kernel
theorem dX12_isBeyond_4 : decode cX12_isBeyond 4 = .ok (.iload_n 1, 1) := by decide +kernel
theorem dX12_isBeyond_5 : decode cX12_isBeyond 5 = .ok (.ifCond .lt 14, 3) := by decide +kernel
theorem dX12_isBeyond_8 : decode cX12_isBeyond 8 = .ok (.iload_n 0, 1) := by decide +kernel
theorem dX12_isBeyond_9 : decode cX12_isBeyond 9 = .ok (.i2l, 1) := by decide +kernel
theorem dX12_isBeyond_10 : decode cX12_isBeyond 10 = .ok (.iload_n 1, 1) := by decide +kernel
theorem dX12_isBeyond_11 : decode cX12_isBeyond 11 = .ok (.i2l, 1) := by decide +kernel
theorem dX12_isBeyond_12 : decode cX12_isBeyond 12 = .ok (.ladd, 1) := by decide +kernel
theorem dX12_isBeyond_13 : decode cX12_isBeyond 13 = .ok (.iload_n 2, 1) := by decide +kernel
theorem dX12_isBeyond_14 : decode cX12_isBeyond 14 = .ok (.i2l, 1) := by decide +kernel
theorem dX12_isBeyond_15 : decode cX12_isBeyond 15 = .ok (.lcmp, 1) := by decide +kernel
theorem dX12_isBeyond_16 : decode cX12_isBeyond 16 = .ok (.ifCond .le 7, 3) := by decide +kernel
theorem dX12_isBeyond_19 : decode cX12_isBeyond 19 = .ok (.iconst 1, 1) := by decide +kernel
theorem dX12_isBeyond_20 : decode cX12_isBeyond 20 = .ok (.goto 4, 3) := by decide +kernel
theorem dX12_isBeyond_23 : decode cX12_isBeyond 23 = .ok (.iconst 0, 1) := by decide +kernel
theorem dX12_isBeyond_24 : decode cX12_isBeyond 24 = .ok (.ireturn, 1) := by decide +kernel
theorem dX12_copy_0 : decode cX12_copy 0 = .ok (.iload_n 1, 1) := by decide +kernel
theorem dX12_copy_1 : decode cX12_copy 1 = .ok (.invokestatic 137, 3) := by decide +kernel
theorem dX12_copy_4 : decode cX12_copy 4 = .ok (.ifCond .ne 10, 3) := by decide +kernel
theorem dX12_copy_7 : decode cX12_copy 7 = .ok (.iload_n 3, 1) := by decide +kernel
theorem dX12_copy_8 : decode cX12_copy 8 = .ok (.invokestatic 137, 3) := by decide +kernel
theorem dX12_copy_11 : decode cX12_copy 11 = .ok (.ifCond .eq 9, 3) := by decide +kernel
theorem dX12_copy_14 : decode cX12_copy 14 = .ok (.aload_n 0, 1) := by decide +kernel
theorem dX12_copy_15 : decode cX12_copy 15 = .ok (.iconst (-1), 1) := by decide +kernel
theorem dX12_copy_16 : decode cX12_copy 16 = .ok (.invokevirtual 128, 3) := by decide +kernel
theorem dX12_copy_19 : decode cX12_copy 19 = .ok (.ireturn, 1) := by decide +kernel
theorem dX12_copy_20 : decode cX12_copy 20 = .ok (.aload_n 0, 1) := by decide +kernel
theorem dX12_copy_21 : decode cX12_copy 21 = .ok (.getfield 29, 3) := by decide +kernel
theorem dX12_copy_24 : decode cX12_copy 24 = .ok (.iload_n 1, 1) := by decide +kernel
theorem dX12_copy_25 : decode cX12_copy 25 = .ok (.iaload, 1) := by decide +kernel
theorem dX12_copy_26 : decode cX12_copy 26 = .ok (.ifCond .lt 12, 3) := by decide +kernel
theorem dX12_copy_29 : decode cX12_copy 29 = .ok (.aload_n 0, 1) := by decide +kernel
theorem dX12_copy_30 : decode cX12_copy 30 = .ok (.getfield 29, 3) := by decide +kernel
theorem dX12_copy_33 : decode cX12_copy 33 = .ok (.iload_n 3, 1) := by decide +kernel
theorem dX12_copy_34 : decode cX12_copy 34 = .ok (.iaload, 1) := by decide +kernel
theorem dX12_copy_35 : decode cX12_copy 35 = .ok (.ifCond .ge 9, 3) := by decide +kernel
theorem dX12_copy_38 : decode cX12_copy 38 = .ok (.aload_n 0, 1) := by decide +kernel
theorem dX12_copy_39 : decode cX12_copy 39 = .ok (.iconst 1, 1) := by decide +kernel
theorem dX12_copy_40 : decode cX12_copy 40 = .ok (.invokevirtual 132, 3) := by decide +kernel
theorem dX12_copy_43 : decode cX12_copy 43 = .ok (.ireturn, 1) := by decide +kernel
theorem dX12_copy_44 : decode cX12_copy 44 = .ok (.aload_n 0, 1) := by decide +kernel
theorem dX12_copy_45 : decode cX12_copy 45 = .ok (.getfield 32, 3) := by decide +kernel
theorem dX12_copy_48 : decode cX12_copy 48 = .ok (.iload_n 1, 1) := by decide +kernel
theorem dX12_copy_49 : decode cX12_copy 49 = .ok (.iaload, 1) := by decide +kernel
theorem dX12_copy_50 : decode cX12_copy 50 = .ok (.aload_n 0, 1) := by decide +kernel
theorem dX12_copy_51 : decode cX12_copy 51 = .ok (.getfield 32, 3) := by decide +kernel
theorem dX12_copy_54 : decode cX12_copy 54 = .ok (.iload_n 3, 1) := by decide +kernel
theorem dX12_copy_55 : decode cX12_copy 55 = .ok (.iaload, 1) := by decide +kernel
theorem dX12_copy_56 : decode cX12_copy 56 = .ok (.if_icmp .eq 9, 3) := by decide +kernel
theorem dX12_copy_59 : decode cX12_copy 59 = .ok (.aload_n 0, 1) := by decide +kernel
theorem dX12_copy_60 : decode cX12_copy 60 = .ok (.iconst 2, 1) := by decide +kernel
theorem dX12_copy_61 : decode cX12_copy 61 = .ok (.invokevirtual 132, 3) := by decide +kernel
theorem dX12_copy_64 : decode cX12_copy 64 = .ok (.ireturn, 1) := by decide +kernel
theorem dX12_copy_65 : decode cX12_copy 65 = .ok (.iload_n 2, 1) := by decide +kernel
theorem dX12_copy_66 : decode cX12_copy 66 = .ok (.iload 5, 2) := by decide +kernel
theorem dX12_copy_68 : decode cX12_copy 68 = .ok (.aload_n 0, 1) := by decide +kernel
theorem dX12_copy_69 : decode cX12_copy 69 = .ok (.getfield 29, 3) := by decide +kernel
theorem dX12_copy_72 : decode cX12_copy 72 = .ok (.iload_n 1, 1) := by decide +kernel
theorem dX12_copy_73 : decode cX12_copy 73 = .ok (.iaload, 1) := by decide +kernel
theorem dX12_copy_74 : decode cX12_copy 74 = .ok (.invokestatic 148, 3) := by decide +kernel
theorem dX12_copy_77 : decode cX12_copy 77 = .ok (.ifCond .ne 19, 3) := by decide +kernel
theorem dX12_copy_80 : decode cX12_copy 80 = .ok (.iload 4, 2) := by decide +kernel
theorem dX12_copy_82 : decode cX12_copy 82 = .ok (.iload 5, 2) := by decide +kernel
theorem dX12_copy_84 : decode cX12_copy 84 = .ok (.aload_n 0, 1) := by decide +kernel
theorem dX12_copy_85 : decode cX12_copy 85 = .ok (.getfield 29, 3) := by decide +kernel
theorem dX12_copy_88 : decode cX12_copy 88 = .ok (.iload_n 3, 1) := by decide +kernel
theorem dX12_copy_89 : decode cX12_copy 89 = .ok (.iaload, 1) := by decide +kernel
theorem dX12_copy_90 : decode cX12_copy 90 = .ok (.invokestatic 148, 3) := by decide +kernel
theorem dX12_copy_93 : decode cX12_copy 93 = .ok (.ifCond .eq 9, 3) := by decide +kernel
theorem dX12_copy_96 : decode cX12_copy 96 = .ok (.aload_n 0, 1) := by decide +kernel
theorem dX12_copy_97 : decode cX12_copy 97 = .ok (.iconst 3, 1) := by decide +kernel
theorem dX12_copy_98 : decode cX12_copy 98 = .ok (.invokevirtual 132, 3) := by decide +kernel
theorem dX12_copy_101 : decode cX12_copy 101 = .ok (.ireturn, 1) := by decide +kernel
theorem dX12_copy_102 : decode cX12_copy 102 = .ok (.iconst 0, 1) := by decide +kernel
theorem dX12_copy_103 : decode cX12_copy 103 = .ok (.istore 6, 2) := by decide +kernel
theorem dX12_copy_105 : decode cX12_copy 105 = .ok (.iload 6, 2) := by decide +kernel
theorem dX12_copy_107 : decode cX12_copy 107 = .ok (.iload 5, 2) := by decide +kernel
theorem dX12_copy_109 : decode cX12_copy 109 = .ok (.if_icmp .ge 30, 3) := by decide +kernel
theorem dX12_copy_112 : decode cX12_copy 112 = .ok (.aload_n 0, 1) := by decide +kernel
theorem dX12_copy_113 : decode cX12_copy 113 = .ok (.getfield 38, 3) := by decide +kernel
theorem dX12_copy_116 : decode cX12_copy 116 = .ok (.iload 6, 2) := by decide +kernel
theorem dX12_copy_118 : decode cX12_copy 118 = .ok (.aload_n 0, 1) := by decide +kernel
theorem dX12_copy_119 : decode cX12_copy 119 = .ok (.getfield 35, 3) := by decide +kernel
theorem dX12_copy_122 : decode cX12_copy 122 = .ok (.bipush 32, 2) := by decide +kernel
theorem dX12_copy_124 : decode cX12_copy 124 = .ok (.iload_n 1, 1) := by decide +kernel
theorem dX12_copy_125 : decode cX12_copy 125 = .ok (.imul, 1) := by decide +kernel
theorem dX12_copy_126 : decode cX12_copy 126 = .ok (.iload_n 2, 1) := by decide +kernel
theorem dX12_copy_127 : decode cX12_copy 127 = .ok (.iadd, 1) := by decide +kernel
theorem dX12_copy_128 : decode cX12_copy 128 = .ok (.iload 6, 2) := by decide +kernel
theorem dX12_copy_130 : decode cX12_copy 130 = .ok (.iadd, 1) := by decide +kernel
theorem dX12_copy_131 : decode cX12_copy 131 = .ok (.iaload, 1) := by decide +kernel
theorem dX12_copy_132 : decode cX12_copy 132 = .ok (.iastore, 1) := by decide +kernel
theorem dX12_copy_133 : decode cX12_copy 133 = .ok (.iinc 6 1, 3) := by decide +kernel
theorem dX12_copy_136 : decode cX12_copy 136 = .ok (.goto (-31), 3) := by decide +kernel
theorem dX12_copy_139 : decode cX12_copy 139 = .ok (.iconst 0, 1) := by decide +kernel
theorem dX12_copy_140 : decode cX12_copy 140 = .ok (.istore 6, 2) := by decide +kernel
theorem dX12_copy_142 : decode cX12_copy 142 = .ok (.iload 6, 2) := by decide +kernel
theorem dX12_copy_144 : decode cX12_copy 144 = .ok (.iload 5, 2) := by decide +kernel
theorem dX12_copy_146 : decode cX12_copy 146 = .ok (.if_icmp .ge 31, 3) := by decide +kernel
theorem dX12_copy_149 : decode cX12_copy 149 = .ok (.aload_n 0, 1) := by decide +kernel
theorem dX12_copy_150 : decode cX12_copy 150 = .ok (.getfield 35, 3) := by decide +kernel
theorem dX12_copy_153 : decode cX12_copy 153 = .ok (.bipush 32, 2) := by decide +kernel
theorem dX12_copy_155 : decode cX12_copy 155 = .ok (.iload_n 3, 1) := by decide +kernel
theorem dX12_copy_156 : decode cX12_copy 156 = .ok (.imul, 1) := by decide +kernel
theorem dX12_copy_157 : decode cX12_copy 157 = .ok (.iload 4, 2) := by decide +kernel
theorem dX12_copy_159 : decode cX12_copy 159 = .ok (.iadd, 1) := by decide +kernel
theorem dX12_copy_160 : decode cX12_copy 160 = .ok (.iload 6, 2) := by decide +kernel
theorem dX12_copy_162 : decode cX12_copy 162 = .ok (.iadd, 1) := by decide +kernel
theorem dX12_copy_163 : decode cX12_copy 163 = .ok (.aload_n 0, 1) := by decide +kernel
theorem dX12_copy_164 : decode cX12_copy 164 = .ok (.getfield 38, 3) := by decide +kernel
theorem dX12_copy_167 : decode cX12_copy 167 = .ok (.iload 6, 2) := by decide +kernel
theorem dX12_copy_169 : decode cX12_copy 169 = .ok (.iaload, 1) := by decide +kernel
theorem dX12_copy_170 : decode cX12_copy 170 = .ok (.iastore, 1) := by decide +kernel
theorem dX12_copy_171 : decode cX12_copy 171 = .ok (.iinc 6 1, 3) := by decide +kernel
theorem dX12_copy_174 : decode cX12_copy 174 = .ok (.goto (-32), 3) := by decide +kernel
theorem dX12_copy_177 : decode cX12_copy 177 = .ok (.aload_n 0, 1) := by decide +kernel
theorem dX12_copy_178 : decode cX12_copy 178 = .ok (.iload 5, 2) := by decide +kernel
theorem dX12_copy_180 : decode cX12_copy 180 = .ok (.invokevirtual 128, 3) := by decide +kernel
theorem dX12_copy_183 : decode cX12_copy 183 = .ok (.ireturn, 1) := by decide +kernel
theorem dX12_faultOf_0 : decode cX12_faultOf 0 = .ok (.aload_n 0, 1) := by decide +kernel
theorem dX12_faultOf_1 : decode cX12_faultOf 1 = .ok (.getfield 29, 3) := by decide +kernel
theorem dX12_faultOf_4 : decode cX12_faultOf 4 = .ok (.iload_n 1, 1) := by decide +kernel
theorem dX12_faultOf_5 : decode cX12_faultOf 5 = .ok (.iaload, 1) := by decide +kernel
theorem dX12_faultOf_6 : decode cX12_faultOf 6 = .ok (.ifCond .lt 15, 3) := by decide +kernel
theorem dX12_faultOf_9 : decode cX12_faultOf 9 = .ok (.aload_n 0, 1) := by decide +kernel
theorem dX12_faultOf_10 : decode cX12_faultOf 10 = .ok (.getfield 32, 3) := by decide +kernel
theorem dX12_faultOf_13 : decode cX12_faultOf 13 = .ok (.iload_n 1, 1) := by decide +kernel
theorem dX12_faultOf_14 : decode cX12_faultOf 14 = .ok (.iaload, 1) := by decide +kernel
theorem dX12_faultOf_15 : decode cX12_faultOf 15 = .ok (.iload_n 2, 1) := by decide +kernel
theorem dX12_faultOf_16 : decode cX12_faultOf 16 = .ok (.if_icmp .eq 5, 3) := by decide +kernel
theorem dX12_faultOf_19 : decode cX12_faultOf 19 = .ok (.iconst 2, 1) := by decide +kernel
theorem dX12_faultOf_20 : decode cX12_faultOf 20 = .ok (.ireturn, 1) := by decide +kernel
theorem dX12_faultOf_21 : decode cX12_faultOf 21 = .ok (.aload_n 0, 1) := by decide +kernel
theorem dX12_faultOf_22 : decode cX12_faultOf 22 = .ok (.getfield 29, 3) := by decide +kernel
theorem dX12_faultOf_25 : decode cX12_faultOf 25 = .ok (.iload_n 1, 1) := by decide +kernel
theorem dX12_faultOf_26 : decode cX12_faultOf 26 = .ok (.iaload, 1) := by decide +kernel
theorem dX12_faultOf_27 : decode cX12_faultOf 27 = .ok (.ifCond .ge 7, 3) := by decide +kernel
theorem dX12_faultOf_30 : decode cX12_faultOf 30 = .ok (.iconst 1, 1) := by decide +kernel
theorem dX12_faultOf_31 : decode cX12_faultOf 31 = .ok (.goto 32, 3) := by decide +kernel
theorem dX12_faultOf_34 : decode cX12_faultOf 34 = .ok (.iload 4, 2) := by decide +kernel
theorem dX12_faultOf_36 : decode cX12_faultOf 36 = .ok (.ifCond .ge 7, 3) := by decide +kernel
theorem dX12_faultOf_39 : decode cX12_faultOf 39 = .ok (.iconst 4, 1) := by decide +kernel
theorem dX12_faultOf_40 : decode cX12_faultOf 40 = .ok (.goto 23, 3) := by decide +kernel
theorem dX12_faultOf_43 : decode cX12_faultOf 43 = .ok (.iload_n 3, 1) := by decide +kernel
theorem dX12_faultOf_44 : decode cX12_faultOf 44 = .ok (.iload 4, 2) := by decide +kernel
theorem dX12_faultOf_46 : decode cX12_faultOf 46 = .ok (.aload_n 0, 1) := by decide +kernel
theorem dX12_faultOf_47 : decode cX12_faultOf 47 = .ok (.getfield 29, 3) := by decide +kernel
theorem dX12_faultOf_50 : decode cX12_faultOf 50 = .ok (.iload_n 1, 1) := by decide +kernel
theorem dX12_faultOf_51 : decode cX12_faultOf 51 = .ok (.iaload, 1) := by decide +kernel
theorem dX12_faultOf_52 : decode cX12_faultOf 52 = .ok (.invokestatic 148, 3) := by decide +kernel
theorem dX12_faultOf_55 : decode cX12_faultOf 55 = .ok (.ifCond .eq 7, 3) := by decide +kernel
theorem dX12_faultOf_58 : decode cX12_faultOf 58 = .ok (.iconst 3, 1) := by decide +kernel
theorem dX12_faultOf_59 : decode cX12_faultOf 59 = .ok (.goto 4, 3) := by decide +kernel
theorem dX12_faultOf_62 : decode cX12_faultOf 62 = .ok (.iconst 0, 1) := by decide +kernel
theorem dX12_faultOf_63 : decode cX12_faultOf 63 = .ok (.ireturn, 1) := by decide +kernel
theorem dX12_isBook_0 : decode cX12_isBook 0 = .ok (.iload_n 3, 1) := by decide +kernel
theorem dX12_isBook_1 : decode cX12_isBook 1 = .ok (.i2l, 1) := by decide +kernel
theorem dX12_isBook_2 : decode cX12_isBook 2 = .ok (.ldc2_w 123, 3) := by decide +kernel
theorem dX12_isBook_5 : decode cX12_isBook 5 = .ok (.ldc2_w 152, 3) := by decide +kernel
theorem dX12_isBook_8 : decode cX12_isBook 8 = .ok (.invokestatic 111, 3) := by decide +kernel
theorem dX12_isBook_11 : decode cX12_isBook 11 = .ok (.istore 4, 2) := by decide +kernel
theorem dX12_isBook_13 : decode cX12_isBook 13 = .ok (.iconst 0, 1) := by decide +kernel
theorem dX12_isBook_14 : decode cX12_isBook 14 = .ok (.istore 5, 2) := by decide +kernel
theorem dX12_isBook_16 : decode cX12_isBook 16 = .ok (.iload 5, 2) := by decide +kernel
theorem dX12_isBook_18 : decode cX12_isBook 18 = .ok (.iload_n 3, 1) := by decide +kernel
theorem dX12_isBook_19 : decode cX12_isBook 19 = .ok (.if_icmp .ge 71, 3) := by decide +kernel
theorem dX12_isBook_22 : decode cX12_isBook 22 = .ok (.iload 4, 2) := by decide +kernel
theorem dX12_isBook_24 : decode cX12_isBook 24 = .ok (.ifCond .eq 66, 3) := by decide +kernel
theorem dX12_isBook_27 : decode cX12_isBook 27 = .ok (.aload_n 0, 1) := by decide +kernel
theorem dX12_isBook_28 : decode cX12_isBook 28 = .ok (.getfield 35, 3) := by decide +kernel
theorem dX12_isBook_31 : decode cX12_isBook 31 = .ok (.bipush 32, 2) := by decide +kernel
theorem dX12_isBook_33 : decode cX12_isBook 33 = .ok (.iload_n 1, 1) := by decide +kernel
theorem dX12_isBook_34 : decode cX12_isBook 34 = .ok (.imul, 1) := by decide +kernel
theorem dX12_isBook_35 : decode cX12_isBook 35 = .ok (.iload_n 2, 1) := by decide +kernel
theorem dX12_isBook_36 : decode cX12_isBook 36 = .ok (.iadd, 1) := by decide +kernel
theorem dX12_isBook_37 : decode cX12_isBook 37 = .ok (.iload 5, 2) := by decide +kernel
theorem dX12_isBook_39 : decode cX12_isBook 39 = .ok (.iadd, 1) := by decide +kernel
theorem dX12_isBook_40 : decode cX12_isBook 40 = .ok (.iaload, 1) := by decide +kernel
theorem dX12_isBook_41 : decode cX12_isBook 41 = .ok (.istore 6, 2) := by decide +kernel
theorem dX12_isBook_43 : decode cX12_isBook 43 = .ok (.iload 6, 2) := by decide +kernel
theorem dX12_isBook_45 : decode cX12_isBook 45 = .ok (.invokestatic 117, 3) := by decide +kernel
theorem dX12_isBook_48 : decode cX12_isBook 48 = .ok (.ifCond .eq 33, 3) := by decide +kernel
theorem dX12_isBook_51 : decode cX12_isBook 51 = .ok (.iload 5, 2) := by decide +kernel
theorem dX12_isBook_53 : decode cX12_isBook 53 = .ok (.ifCond .eq 24, 3) := by decide +kernel
theorem dX12_isBook_56 : decode cX12_isBook 56 = .ok (.aload_n 0, 1) := by decide +kernel
theorem dX12_isBook_57 : decode cX12_isBook 57 = .ok (.getfield 35, 3) := by decide +kernel
theorem dX12_isBook_60 : decode cX12_isBook 60 = .ok (.bipush 32, 2) := by decide +kernel
theorem dX12_isBook_62 : decode cX12_isBook 62 = .ok (.iload_n 1, 1) := by decide +kernel
theorem dX12_isBook_63 : decode cX12_isBook 63 = .ok (.imul, 1) := by decide +kernel
theorem dX12_isBook_64 : decode cX12_isBook 64 = .ok (.iload_n 2, 1) := by decide +kernel
theorem dX12_isBook_65 : decode cX12_isBook 65 = .ok (.iadd, 1) := by decide +kernel
theorem dX12_isBook_66 : decode cX12_isBook 66 = .ok (.iload 5, 2) := by decide +kernel
theorem dX12_isBook_68 : decode cX12_isBook 68 = .ok (.iadd, 1) := by decide +kernel
theorem dX12_isBook_69 : decode cX12_isBook 69 = .ok (.iconst 1, 1) := by decide +kernel
theorem dX12_isBook_70 : decode cX12_isBook 70 = .ok (.isub, 1) := by decide +kernel
theorem dX12_isBook_71 : decode cX12_isBook 71 = .ok (.iaload, 1) := by decide +kernel
theorem dX12_isBook_72 : decode cX12_isBook 72 = .ok (.iload 6, 2) := by decide +kernel
theorem dX12_isBook_74 : decode cX12_isBook 74 = .ok (.if_icmp .eq 7, 3) := by decide +kernel
theorem dX12_isBook_77 : decode cX12_isBook 77 = .ok (.iconst 1, 1) := by decide +kernel
theorem dX12_isBook_78 : decode cX12_isBook 78 = .ok (.goto 4, 3) := by decide +kernel
theorem dX12_isBook_81 : decode cX12_isBook 81 = .ok (.iconst 0, 1) := by decide +kernel
theorem dX12_isBook_82 : decode cX12_isBook 82 = .ok (.istore 4, 2) := by decide +kernel
theorem dX12_isBook_84 : decode cX12_isBook 84 = .ok (.iinc 5 1, 3) := by decide +kernel
theorem dX12_isBook_87 : decode cX12_isBook 87 = .ok (.goto (-71), 3) := by decide +kernel
theorem dX12_isBook_90 : decode cX12_isBook 90 = .ok (.iload 4, 2) := by decide +kernel
theorem dX12_isBook_92 : decode cX12_isBook 92 = .ok (.ireturn, 1) := by decide +kernel
theorem dX12_book_0 : decode cX12_book 0 = .ok (.iload_n 1, 1) := by decide +kernel
theorem dX12_book_1 : decode cX12_book 1 = .ok (.invokestatic 137, 3) := by decide +kernel
theorem dX12_book_4 : decode cX12_book 4 = .ok (.ifCond .eq 9, 3) := by decide +kernel
theorem dX12_book_7 : decode cX12_book 7 = .ok (.aload_n 0, 1) := by decide +kernel
theorem dX12_book_8 : decode cX12_book 8 = .ok (.iconst (-1), 1) := by decide +kernel
theorem dX12_book_9 : decode cX12_book 9 = .ok (.invokevirtual 128, 3) := by decide +kernel
theorem dX12_book_12 : decode cX12_book 12 = .ok (.ireturn, 1) := by decide +kernel
theorem dX12_book_13 : decode cX12_book 13 = .ok (.iload_n 2, 1) := by decide +kernel
theorem dX12_book_14 : decode cX12_book 14 = .ok (.i2l, 1) := by decide +kernel
theorem dX12_book_15 : decode cX12_book 15 = .ok (.lconst 0, 1) := by decide +kernel
theorem dX12_book_16 : decode cX12_book 16 = .ok (.ldc2_w 123, 3) := by decide +kernel
theorem dX12_book_19 : decode cX12_book 19 = .ok (.invokestatic 111, 3) := by decide +kernel
theorem dX12_book_22 : decode cX12_book 22 = .ok (.ifCond .ne 10, 3) := by decide +kernel
theorem dX12_book_25 : decode cX12_book 25 = .ok (.aload_n 0, 1) := by decide +kernel
theorem dX12_book_26 : decode cX12_book 26 = .ok (.bipush (-2), 2) := by decide +kernel
theorem dX12_book_28 : decode cX12_book 28 = .ok (.invokevirtual 128, 3) := by decide +kernel
theorem dX12_book_31 : decode cX12_book 31 = .ok (.ireturn, 1) := by decide +kernel
theorem dX12_book_32 : decode cX12_book 32 = .ok (.aload_n 0, 1) := by decide +kernel
theorem dX12_book_33 : decode cX12_book 33 = .ok (.iload_n 1, 1) := by decide +kernel
theorem dX12_book_34 : decode cX12_book 34 = .ok (.iload_n 2, 1) := by decide +kernel
theorem dX12_book_35 : decode cX12_book 35 = .ok (.iload_n 3, 1) := by decide +kernel
theorem dX12_book_36 : decode cX12_book 36 = .ok (.iload 4, 2) := by decide +kernel
theorem dX12_book_38 : decode cX12_book 38 = .ok (.invokevirtual 154, 3) := by decide +kernel
theorem dX12_book_41 : decode cX12_book 41 = .ok (.istore 5, 2) := by decide +kernel
theorem dX12_book_43 : decode cX12_book 43 = .ok (.iload 5, 2) := by decide +kernel
theorem dX12_book_45 : decode cX12_book 45 = .ok (.ifCond .le 10, 3) := by decide +kernel
theorem dX12_book_48 : decode cX12_book 48 = .ok (.aload_n 0, 1) := by decide +kernel
theorem dX12_book_49 : decode cX12_book 49 = .ok (.iload 5, 2) := by decide +kernel
theorem dX12_book_51 : decode cX12_book 51 = .ok (.invokevirtual 132, 3) := by decide +kernel
theorem dX12_book_54 : decode cX12_book 54 = .ok (.ireturn, 1) := by decide +kernel
theorem dX12_book_55 : decode cX12_book 55 = .ok (.aload_n 0, 1) := by decide +kernel
theorem dX12_book_56 : decode cX12_book 56 = .ok (.iload_n 1, 1) := by decide +kernel
theorem dX12_book_57 : decode cX12_book 57 = .ok (.iload_n 3, 1) := by decide +kernel
theorem dX12_book_58 : decode cX12_book 58 = .ok (.iload 4, 2) := by decide +kernel
theorem dX12_book_60 : decode cX12_book 60 = .ok (.invokevirtual 158, 3) := by decide +kernel
theorem dX12_book_63 : decode cX12_book 63 = .ok (.ifCond .ne 10, 3) := by decide +kernel
theorem dX12_book_66 : decode cX12_book 66 = .ok (.aload_n 0, 1) := by decide +kernel
theorem dX12_book_67 : decode cX12_book 67 = .ok (.bipush (-2), 2) := by decide +kernel
theorem dX12_book_69 : decode cX12_book 69 = .ok (.invokevirtual 128, 3) := by decide +kernel
theorem dX12_book_72 : decode cX12_book 72 = .ok (.ireturn, 1) := by decide +kernel
theorem dX12_book_73 : decode cX12_book 73 = .ok (.aload_n 0, 1) := by decide +kernel
theorem dX12_book_74 : decode cX12_book 74 = .ok (.iload 4, 2) := by decide +kernel
theorem dX12_book_76 : decode cX12_book 76 = .ok (.putfield 161, 3) := by decide +kernel
theorem dX12_book_79 : decode cX12_book 79 = .ok (.iconst 0, 1) := by decide +kernel
theorem dX12_book_80 : decode cX12_book 80 = .ok (.istore 6, 2) := by decide +kernel
theorem dX12_book_82 : decode cX12_book 82 = .ok (.iload 6, 2) := by decide +kernel
theorem dX12_book_84 : decode cX12_book 84 = .ok (.iload 4, 2) := by decide +kernel
theorem dX12_book_86 : decode cX12_book 86 = .ok (.if_icmp .ge 30, 3) := by decide +kernel
theorem dX12_book_89 : decode cX12_book 89 = .ok (.aload_n 0, 1) := by decide +kernel
theorem dX12_book_90 : decode cX12_book 90 = .ok (.getfield 41, 3) := by decide +kernel
theorem dX12_book_93 : decode cX12_book 93 = .ok (.iload 6, 2) := by decide +kernel
theorem dX12_book_95 : decode cX12_book 95 = .ok (.aload_n 0, 1) := by decide +kernel
theorem dX12_book_96 : decode cX12_book 96 = .ok (.getfield 35, 3) := by decide +kernel
theorem dX12_book_99 : decode cX12_book 99 = .ok (.bipush 32, 2) := by decide +kernel
theorem dX12_book_101 : decode cX12_book 101 = .ok (.iload_n 1, 1) := by decide +kernel
theorem dX12_book_102 : decode cX12_book 102 = .ok (.imul, 1) := by decide +kernel
theorem dX12_book_103 : decode cX12_book 103 = .ok (.iload_n 3, 1) := by decide +kernel
theorem dX12_book_104 : decode cX12_book 104 = .ok (.iadd, 1) := by decide +kernel
theorem dX12_book_105 : decode cX12_book 105 = .ok (.iload 6, 2) := by decide +kernel
theorem dX12_book_107 : decode cX12_book 107 = .ok (.iadd, 1) := by decide +kernel
theorem dX12_book_108 : decode cX12_book 108 = .ok (.iaload, 1) := by decide +kernel
theorem dX12_book_109 : decode cX12_book 109 = .ok (.iastore, 1) := by decide +kernel
theorem dX12_book_110 : decode cX12_book 110 = .ok (.iinc 6 1, 3) := by decide +kernel
theorem dX12_book_113 : decode cX12_book 113 = .ok (.goto (-31), 3) := by decide +kernel
theorem dX12_book_116 : decode cX12_book 116 = .ok (.aload_n 0, 1) := by decide +kernel
theorem dX12_book_117 : decode cX12_book 117 = .ok (.iload 4, 2) := by decide +kernel
theorem dX12_book_119 : decode cX12_book 119 = .ok (.invokevirtual 128, 3) := by decide +kernel
theorem dX12_book_122 : decode cX12_book 122 = .ok (.ireturn, 1) := by decide +kernel
theorem dX12_isIn_0 : decode cX12_isIn 0 = .ok (.iconst 0, 1) := by decide +kernel
theorem dX12_isIn_1 : decode cX12_isIn 1 = .ok (.istore_n 2, 1) := by decide +kernel
theorem dX12_isIn_2 : decode cX12_isIn 2 = .ok (.iconst 0, 1) := by decide +kernel
theorem dX12_isIn_3 : decode cX12_isIn 3 = .ok (.istore_n 3, 1) := by decide +kernel
theorem dX12_isIn_4 : decode cX12_isIn 4 = .ok (.iload_n 3, 1) := by decide +kernel
theorem dX12_isIn_5 : decode cX12_isIn 5 = .ok (.aload_n 0, 1) := by decide +kernel
theorem dX12_isIn_6 : decode cX12_isIn 6 = .ok (.getfield 164, 3) := by decide +kernel
theorem dX12_isIn_9 : decode cX12_isIn 9 = .ok (.if_icmp .ge 29, 3) := by decide +kernel
theorem dX12_isIn_12 : decode cX12_isIn 12 = .ok (.iload_n 2, 1) := by decide +kernel
theorem dX12_isIn_13 : decode cX12_isIn 13 = .ok (.ifCond .ne 13, 3) := by decide +kernel
theorem dX12_isIn_16 : decode cX12_isIn 16 = .ok (.aload_n 0, 1) := by decide +kernel
theorem dX12_isIn_17 : decode cX12_isIn 17 = .ok (.getfield 47, 3) := by decide +kernel
theorem dX12_isIn_20 : decode cX12_isIn 20 = .ok (.iload_n 3, 1) := by decide +kernel
theorem dX12_isIn_21 : decode cX12_isIn 21 = .ok (.iaload, 1) := by decide +kernel
theorem dX12_isIn_22 : decode cX12_isIn 22 = .ok (.iload_n 1, 1) := by decide +kernel
theorem dX12_isIn_23 : decode cX12_isIn 23 = .ok (.if_icmp .ne 7, 3) := by decide +kernel
theorem dX12_isIn_26 : decode cX12_isIn 26 = .ok (.iconst 1, 1) := by decide +kernel
theorem dX12_isIn_27 : decode cX12_isIn 27 = .ok (.goto 4, 3) := by decide +kernel
theorem dX12_isIn_30 : decode cX12_isIn 30 = .ok (.iconst 0, 1) := by decide +kernel
theorem dX12_isIn_31 : decode cX12_isIn 31 = .ok (.istore_n 2, 1) := by decide +kernel
theorem dX12_isIn_32 : decode cX12_isIn 32 = .ok (.iinc 3 1, 3) := by decide +kernel
theorem dX12_isIn_35 : decode cX12_isIn 35 = .ok (.goto (-31), 3) := by decide +kernel
theorem dX12_isIn_38 : decode cX12_isIn 38 = .ok (.iload_n 2, 1) := by decide +kernel
theorem dX12_isIn_39 : decode cX12_isIn 39 = .ok (.ireturn, 1) := by decide +kernel
theorem dX12_judge_0 : decode cX12_judge 0 = .ok (.aload_n 0, 1) := by decide +kernel
theorem dX12_judge_1 : decode cX12_judge 1 = .ok (.getfield 53, 3) := by decide +kernel
theorem dX12_judge_4 : decode cX12_judge 4 = .ok (.aload_n 0, 1) := by decide +kernel
theorem dX12_judge_5 : decode cX12_judge 5 = .ok (.getfield 164, 3) := by decide +kernel
theorem dX12_judge_8 : decode cX12_judge 8 = .ok (.iaload, 1) := by decide +kernel
theorem dX12_judge_9 : decode cX12_judge 9 = .ok (.aload_n 0, 1) := by decide +kernel
theorem dX12_judge_10 : decode cX12_judge 10 = .ok (.getfield 161, 3) := by decide +kernel
theorem dX12_judge_13 : decode cX12_judge 13 = .ok (.if_icmp .lt 26, 3) := by decide +kernel
theorem dX12_judge_16 : decode cX12_judge 16 = .ok (.aload_n 0, 1) := by decide +kernel
theorem dX12_judge_17 : decode cX12_judge 17 = .ok (.getfield 50, 3) := by decide +kernel
theorem dX12_judge_20 : decode cX12_judge 20 = .ok (.aload_n 0, 1) := by decide +kernel
theorem dX12_judge_21 : decode cX12_judge 21 = .ok (.getfield 164, 3) := by decide +kernel
theorem dX12_judge_24 : decode cX12_judge 24 = .ok (.iaload, 1) := by decide +kernel
theorem dX12_judge_25 : decode cX12_judge 25 = .ok (.aload_n 0, 1) := by decide +kernel
theorem dX12_judge_26 : decode cX12_judge 26 = .ok (.getfield 41, 3) := by decide +kernel
theorem dX12_judge_29 : decode cX12_judge 29 = .ok (.aload_n 0, 1) := by decide +kernel
theorem dX12_judge_30 : decode cX12_judge 30 = .ok (.getfield 161, 3) := by decide +kernel
theorem dX12_judge_33 : decode cX12_judge 33 = .ok (.iconst 1, 1) := by decide +kernel
theorem dX12_judge_34 : decode cX12_judge 34 = .ok (.isub, 1) := by decide +kernel
theorem dX12_judge_35 : decode cX12_judge 35 = .ok (.iaload, 1) := by decide +kernel
theorem dX12_judge_36 : decode cX12_judge 36 = .ok (.if_icmp .eq 4, 3) := by decide +kernel
theorem dX12_judge_39 : decode cX12_judge 39 = .ok (.return_, 1) := by decide +kernel
theorem dX12_judge_40 : decode cX12_judge 40 = .ok (.aload_n 0, 1) := by decide +kernel
theorem dX12_judge_41 : decode cX12_judge 41 = .ok (.getfield 167, 3) := by decide +kernel
theorem dX12_judge_44 : decode cX12_judge 44 = .ok (.ifCond .lt 19, 3) := by decide +kernel
theorem dX12_judge_47 : decode cX12_judge 47 = .ok (.aload_n 0, 1) := by decide +kernel
theorem dX12_judge_48 : decode cX12_judge 48 = .ok (.getfield 56, 3) := by decide +kernel
theorem dX12_judge_51 : decode cX12_judge 51 = .ok (.aload_n 0, 1) := by decide +kernel
theorem dX12_judge_52 : decode cX12_judge 52 = .ok (.getfield 164, 3) := by decide +kernel
theorem dX12_judge_55 : decode cX12_judge 55 = .ok (.iaload, 1) := by decide +kernel
theorem dX12_judge_56 : decode cX12_judge 56 = .ok (.aload_n 0, 1) := by decide +kernel
theorem dX12_judge_57 : decode cX12_judge 57 = .ok (.getfield 167, 3) := by decide +kernel
theorem dX12_judge_60 : decode cX12_judge 60 = .ok (.if_icmp .ge 60, 3) := by decide +kernel
theorem dX12_judge_63 : decode cX12_judge 63 = .ok (.aload_n 0, 1) := by decide +kernel
theorem dX12_judge_64 : decode cX12_judge 64 = .ok (.aload_n 0, 1) := by decide +kernel
theorem dX12_judge_65 : decode cX12_judge 65 = .ok (.getfield 56, 3) := by decide +kernel
theorem dX12_judge_68 : decode cX12_judge 68 = .ok (.aload_n 0, 1) := by decide +kernel
theorem dX12_judge_69 : decode cX12_judge 69 = .ok (.getfield 164, 3) := by decide +kernel
theorem dX12_judge_72 : decode cX12_judge 72 = .ok (.iaload, 1) := by decide +kernel
theorem dX12_judge_73 : decode cX12_judge 73 = .ok (.putfield 167, 3) := by decide +kernel
theorem dX12_judge_76 : decode cX12_judge 76 = .ok (.aload_n 0, 1) := by decide +kernel
theorem dX12_judge_77 : decode cX12_judge 77 = .ok (.aload_n 0, 1) := by decide +kernel
theorem dX12_judge_78 : decode cX12_judge 78 = .ok (.getfield 164, 3) := by decide +kernel
theorem dX12_judge_81 : decode cX12_judge 81 = .ok (.putfield 170, 3) := by decide +kernel
theorem dX12_judge_84 : decode cX12_judge 84 = .ok (.aload_n 0, 1) := by decide +kernel
theorem dX12_judge_85 : decode cX12_judge 85 = .ok (.iconst 0, 1) := by decide +kernel
theorem dX12_judge_86 : decode cX12_judge 86 = .ok (.putfield 173, 3) := by decide +kernel
theorem dX12_judge_89 : decode cX12_judge 89 = .ok (.iconst 0, 1) := by decide +kernel
theorem dX12_judge_90 : decode cX12_judge 90 = .ok (.istore_n 1, 1) := by decide +kernel
theorem dX12_judge_91 : decode cX12_judge 91 = .ok (.iload_n 1, 1) := by decide +kernel
theorem dX12_judge_92 : decode cX12_judge 92 = .ok (.aload_n 0, 1) := by decide +kernel
theorem dX12_judge_93 : decode cX12_judge 93 = .ok (.getfield 164, 3) := by decide +kernel
theorem dX12_judge_96 : decode cX12_judge 96 = .ok (.if_icmp .ge 21, 3) := by decide +kernel
theorem dX12_judge_99 : decode cX12_judge 99 = .ok (.aload_n 0, 1) := by decide +kernel
theorem dX12_judge_100 : decode cX12_judge 100 = .ok (.getfield 44, 3) := by decide +kernel
theorem dX12_judge_103 : decode cX12_judge 103 = .ok (.iload_n 1, 1) := by decide +kernel
theorem dX12_judge_104 : decode cX12_judge 104 = .ok (.aload_n 0, 1) := by decide +kernel
theorem dX12_judge_105 : decode cX12_judge 105 = .ok (.getfield 47, 3) := by decide +kernel
theorem dX12_judge_108 : decode cX12_judge 108 = .ok (.iload_n 1, 1) := by decide +kernel
theorem dX12_judge_109 : decode cX12_judge 109 = .ok (.iaload, 1) := by decide +kernel
theorem dX12_judge_110 : decode cX12_judge 110 = .ok (.iastore, 1) := by decide +kernel
theorem dX12_judge_111 : decode cX12_judge 111 = .ok (.iinc 1 1, 3) := by decide +kernel
theorem dX12_judge_114 : decode cX12_judge 114 = .ok (.goto (-23), 3) := by decide +kernel
theorem dX12_judge_117 : decode cX12_judge 117 = .ok (.goto 29, 3) := by decide +kernel
theorem dX12_judge_120 : decode cX12_judge 120 = .ok (.aload_n 0, 1) := by decide +kernel
theorem dX12_judge_121 : decode cX12_judge 121 = .ok (.getfield 56, 3) := by decide +kernel
theorem dX12_judge_124 : decode cX12_judge 124 = .ok (.aload_n 0, 1) := by decide +kernel
theorem dX12_judge_125 : decode cX12_judge 125 = .ok (.getfield 164, 3) := by decide +kernel
theorem dX12_judge_128 : decode cX12_judge 128 = .ok (.iaload, 1) := by decide +kernel
theorem dX12_judge_129 : decode cX12_judge 129 = .ok (.aload_n 0, 1) := by decide +kernel
theorem dX12_judge_130 : decode cX12_judge 130 = .ok (.getfield 167, 3) := by decide +kernel
theorem dX12_judge_133 : decode cX12_judge 133 = .ok (.if_icmp .ne 13, 3) := by decide +kernel
theorem dX12_judge_136 : decode cX12_judge 136 = .ok (.aload_n 0, 1) := by decide +kernel
theorem dX12_judge_137 : decode cX12_judge 137 = .ok (.dup, 1) := by decide +kernel
theorem dX12_judge_138 : decode cX12_judge 138 = .ok (.getfield 173, 3) := by decide +kernel
theorem dX12_judge_141 : decode cX12_judge 141 = .ok (.iconst 1, 1) := by decide +kernel
theorem dX12_judge_142 : decode cX12_judge 142 = .ok (.iadd, 1) := by decide +kernel
theorem dX12_judge_143 : decode cX12_judge 143 = .ok (.putfield 173, 3) := by decide +kernel
theorem dX12_judge_146 : decode cX12_judge 146 = .ok (.return_, 1) := by decide +kernel
theorem dX12_search_0 : decode cX12_search 0 = .ok (.aload_n 0, 1) := by decide +kernel
theorem dX12_search_1 : decode cX12_search 1 = .ok (.iconst 0, 1) := by decide +kernel
theorem dX12_search_2 : decode cX12_search 2 = .ok (.putfield 176, 3) := by decide +kernel
theorem dX12_search_5 : decode cX12_search 5 = .ok (.aload_n 0, 1) := by decide +kernel
theorem dX12_search_6 : decode cX12_search 6 = .ok (.iconst (-1), 1) := by decide +kernel
theorem dX12_search_7 : decode cX12_search 7 = .ok (.putfield 167, 3) := by decide +kernel
theorem dX12_search_10 : decode cX12_search 10 = .ok (.aload_n 0, 1) := by decide +kernel
theorem dX12_search_11 : decode cX12_search 11 = .ok (.iconst 0, 1) := by decide +kernel
theorem dX12_search_12 : decode cX12_search 12 = .ok (.putfield 173, 3) := by decide +kernel
theorem dX12_search_15 : decode cX12_search 15 = .ok (.aload_n 0, 1) := by decide +kernel
theorem dX12_search_16 : decode cX12_search 16 = .ok (.iconst 0, 1) := by decide +kernel
theorem dX12_search_17 : decode cX12_search 17 = .ok (.putfield 164, 3) := by decide +kernel
theorem dX12_search_20 : decode cX12_search 20 = .ok (.aload_n 0, 1) := by decide +kernel
theorem dX12_search_21 : decode cX12_search 21 = .ok (.getfield 50, 3) := by decide +kernel
theorem dX12_search_24 : decode cX12_search 24 = .ok (.iconst 0, 1) := by decide +kernel
theorem dX12_search_25 : decode cX12_search 25 = .ok (.aload_n 0, 1) := by decide +kernel
theorem dX12_search_26 : decode cX12_search 26 = .ok (.getfield 41, 3) := by decide +kernel
theorem dX12_search_29 : decode cX12_search 29 = .ok (.iconst 0, 1) := by decide +kernel
theorem dX12_search_30 : decode cX12_search 30 = .ok (.iaload, 1) := by decide +kernel
theorem dX12_search_31 : decode cX12_search 31 = .ok (.iastore, 1) := by decide +kernel
theorem dX12_search_32 : decode cX12_search 32 = .ok (.aload_n 0, 1) := by decide +kernel
theorem dX12_search_33 : decode cX12_search 33 = .ok (.getfield 53, 3) := by decide +kernel
theorem dX12_search_36 : decode cX12_search 36 = .ok (.iconst 0, 1) := by decide +kernel
theorem dX12_search_37 : decode cX12_search 37 = .ok (.iconst 1, 1) := by decide +kernel
theorem dX12_search_38 : decode cX12_search 38 = .ok (.iastore, 1) := by decide +kernel
theorem dX12_search_39 : decode cX12_search 39 = .ok (.aload_n 0, 1) := by decide +kernel
theorem dX12_search_40 : decode cX12_search 40 = .ok (.getfield 56, 3) := by decide +kernel
theorem dX12_search_43 : decode cX12_search 43 = .ok (.iconst 0, 1) := by decide +kernel
theorem dX12_search_44 : decode cX12_search 44 = .ok (.iconst 0, 1) := by decide +kernel
theorem dX12_search_45 : decode cX12_search 45 = .ok (.iastore, 1) := by decide +kernel
theorem dX12_search_46 : decode cX12_search 46 = .ok (.aload_n 0, 1) := by decide +kernel
theorem dX12_search_47 : decode cX12_search 47 = .ok (.getfield 47, 3) := by decide +kernel
theorem dX12_search_50 : decode cX12_search 50 = .ok (.iconst 0, 1) := by decide +kernel
theorem dX12_search_51 : decode cX12_search 51 = .ok (.iconst (-1), 1) := by decide +kernel
theorem dX12_search_52 : decode cX12_search 52 = .ok (.iastore, 1) := by decide +kernel
theorem dX12_search_53 : decode cX12_search 53 = .ok (.aload_n 0, 1) := by decide +kernel
theorem dX12_search_54 : decode cX12_search 54 = .ok (.getfield 164, 3) := by decide +kernel
theorem dX12_search_57 : decode cX12_search 57 = .ok (.ifCond .lt 303, 3) := by decide +kernel
theorem dX12_search_60 : decode cX12_search 60 = .ok (.aload_n 0, 1) := by decide +kernel
theorem dX12_search_61 : decode cX12_search 61 = .ok (.getfield 164, 3) := by decide +kernel
theorem dX12_search_64 : decode cX12_search 64 = .ok (.bipush 10, 2) := by decide +kernel
theorem dX12_search_66 : decode cX12_search 66 = .ok (.if_icmp .ne 10, 3) := by decide +kernel
theorem dX12_search_69 : decode cX12_search 69 = .ok (.aload_n 0, 1) := by decide +kernel
theorem dX12_search_70 : decode cX12_search 70 = .ok (.getfield 108, 3) := by decide +kernel
theorem dX12_search_73 : decode cX12_search 73 = .ok (.goto 14, 3) := by decide +kernel
theorem dX12_search_76 : decode cX12_search 76 = .ok (.aload_n 0, 1) := by decide +kernel
theorem dX12_search_77 : decode cX12_search 77 = .ok (.getfield 47, 3) := by decide +kernel
theorem dX12_search_80 : decode cX12_search 80 = .ok (.aload_n 0, 1) := by decide +kernel
theorem dX12_search_81 : decode cX12_search 81 = .ok (.getfield 164, 3) := by decide +kernel
theorem dX12_search_84 : decode cX12_search 84 = .ok (.iaload, 1) := by decide +kernel
theorem dX12_search_85 : decode cX12_search 85 = .ok (.iconst 1, 1) := by decide +kernel
theorem dX12_search_86 : decode cX12_search 86 = .ok (.iadd, 1) := by decide +kernel
theorem dX12_search_87 : decode cX12_search 87 = .ok (.istore_n 1, 1) := by decide +kernel
theorem dX12_search_88 : decode cX12_search 88 = .ok (.iconst (-1), 1) := by decide +kernel
theorem dX12_search_89 : decode cX12_search 89 = .ok (.istore_n 2, 1) := by decide +kernel
theorem dX12_search_90 : decode cX12_search 90 = .ok (.iload_n 1, 1) := by decide +kernel
theorem dX12_search_91 : decode cX12_search 91 = .ok (.aload_n 0, 1) := by decide +kernel
theorem dX12_search_92 : decode cX12_search 92 = .ok (.getfield 108, 3) := by decide +kernel
theorem dX12_search_95 : decode cX12_search 95 = .ok (.if_icmp .ge 89, 3) := by decide +kernel
theorem dX12_search_98 : decode cX12_search 98 = .ok (.iload_n 2, 1) := by decide +kernel
theorem dX12_search_99 : decode cX12_search 99 = .ok (.ifCond .ge 85, 3) := by decide +kernel
theorem dX12_search_102 : decode cX12_search 102 = .ok (.aload_n 0, 1) := by decide +kernel
theorem dX12_search_103 : decode cX12_search 103 = .ok (.iload_n 1, 1) := by decide +kernel
theorem dX12_search_104 : decode cX12_search 104 = .ok (.invokevirtual 179, 3) := by decide +kernel
theorem dX12_search_107 : decode cX12_search 107 = .ok (.ifCond .eq 7, 3) := by decide +kernel
theorem dX12_search_110 : decode cX12_search 110 = .ok (.iconst (-1), 1) := by decide +kernel
theorem dX12_search_111 : decode cX12_search 111 = .ok (.goto 17, 3) := by decide +kernel
theorem dX12_search_114 : decode cX12_search 114 = .ok (.aload_n 0, 1) := by decide +kernel
theorem dX12_search_115 : decode cX12_search 115 = .ok (.iload_n 1, 1) := by decide +kernel
theorem dX12_search_116 : decode cX12_search 116 = .ok (.aload_n 0, 1) := by decide +kernel
theorem dX12_search_117 : decode cX12_search 117 = .ok (.getfield 50, 3) := by decide +kernel
theorem dX12_search_120 : decode cX12_search 120 = .ok (.aload_n 0, 1) := by decide +kernel
theorem dX12_search_121 : decode cX12_search 121 = .ok (.getfield 164, 3) := by decide +kernel
theorem dX12_search_124 : decode cX12_search 124 = .ok (.iaload, 1) := by decide +kernel
theorem dX12_search_125 : decode cX12_search 125 = .ok (.invokevirtual 182, 3) := by decide +kernel
theorem dX12_search_128 : decode cX12_search 128 = .ok (.istore_n 2, 1) := by decide +kernel
theorem dX12_search_129 : decode cX12_search 129 = .ok (.iload_n 2, 1) := by decide +kernel
theorem dX12_search_130 : decode cX12_search 130 = .ok (.ifCond .lt 37, 3) := by decide +kernel
theorem dX12_search_133 : decode cX12_search 133 = .ok (.aload_n 0, 1) := by decide +kernel
theorem dX12_search_134 : decode cX12_search 134 = .ok (.getfield 167, 3) := by decide +kernel
theorem dX12_search_137 : decode cX12_search 137 = .ok (.ifCond .lt 30, 3) := by decide +kernel
theorem dX12_search_140 : decode cX12_search 140 = .ok (.aload_n 0, 1) := by decide +kernel
theorem dX12_search_141 : decode cX12_search 141 = .ok (.getfield 56, 3) := by decide +kernel
theorem dX12_search_144 : decode cX12_search 144 = .ok (.aload_n 0, 1) := by decide +kernel
theorem dX12_search_145 : decode cX12_search 145 = .ok (.getfield 164, 3) := by decide +kernel
theorem dX12_search_148 : decode cX12_search 148 = .ok (.iaload, 1) := by decide +kernel
theorem dX12_search_149 : decode cX12_search 149 = .ok (.aload_n 0, 1) := by decide +kernel
theorem dX12_search_150 : decode cX12_search 150 = .ok (.getfield 16, 3) := by decide +kernel
theorem dX12_search_153 : decode cX12_search 153 = .ok (.iload_n 1, 1) := by decide +kernel
theorem dX12_search_154 : decode cX12_search 154 = .ok (.iaload, 1) := by decide +kernel
theorem dX12_search_155 : decode cX12_search 155 = .ok (.iadd, 1) := by decide +kernel
theorem dX12_search_156 : decode cX12_search 156 = .ok (.aload_n 0, 1) := by decide +kernel
theorem dX12_search_157 : decode cX12_search 157 = .ok (.getfield 167, 3) := by decide +kernel
theorem dX12_search_160 : decode cX12_search 160 = .ok (.if_icmp .le 7, 3) := by decide +kernel
theorem dX12_search_163 : decode cX12_search 163 = .ok (.iconst (-1), 1) := by decide +kernel
theorem dX12_search_164 : decode cX12_search 164 = .ok (.goto 4, 3) := by decide +kernel
theorem dX12_search_167 : decode cX12_search 167 = .ok (.iload_n 2, 1) := by decide +kernel
theorem dX12_search_168 : decode cX12_search 168 = .ok (.istore_n 2, 1) := by decide +kernel
theorem dX12_search_169 : decode cX12_search 169 = .ok (.iload_n 1, 1) := by decide +kernel
theorem dX12_search_170 : decode cX12_search 170 = .ok (.iload_n 2, 1) := by decide +kernel
theorem dX12_search_171 : decode cX12_search 171 = .ok (.ifCond .ge 7, 3) := by decide +kernel
theorem dX12_search_174 : decode cX12_search 174 = .ok (.iconst 1, 1) := by decide +kernel
theorem dX12_search_175 : decode cX12_search 175 = .ok (.goto 4, 3) := by decide +kernel
theorem dX12_search_178 : decode cX12_search 178 = .ok (.iconst 0, 1) := by decide +kernel
theorem dX12_search_179 : decode cX12_search 179 = .ok (.iadd, 1) := by decide +kernel
theorem dX12_search_180 : decode cX12_search 180 = .ok (.istore_n 1, 1) := by decide +kernel
theorem dX12_search_181 : decode cX12_search 181 = .ok (.goto (-91), 3) := by decide +kernel
theorem dX12_search_184 : decode cX12_search 184 = .ok (.iload_n 2, 1) := by decide +kernel
theorem dX12_search_185 : decode cX12_search 185 = .ok (.ifCond .ge 16, 3) := by decide +kernel
theorem dX12_search_188 : decode cX12_search 188 = .ok (.aload_n 0, 1) := by decide +kernel
theorem dX12_search_189 : decode cX12_search 189 = .ok (.dup, 1) := by decide +kernel
theorem dX12_search_190 : decode cX12_search 190 = .ok (.getfield 164, 3) := by decide +kernel
theorem dX12_search_193 : decode cX12_search 193 = .ok (.iconst 1, 1) := by decide +kernel
theorem dX12_search_194 : decode cX12_search 194 = .ok (.isub, 1) := by decide +kernel
theorem dX12_search_195 : decode cX12_search 195 = .ok (.putfield 164, 3) := by decide +kernel
theorem dX12_search_198 : decode cX12_search 198 = .ok (.goto 159, 3) := by decide +kernel
theorem dX12_search_201 : decode cX12_search 201 = .ok (.aload_n 0, 1) := by decide +kernel
theorem dX12_search_202 : decode cX12_search 202 = .ok (.getfield 176, 3) := by decide +kernel
theorem dX12_search_205 : decode cX12_search 205 = .ok (.ldc 185, 2) := by decide +kernel
theorem dX12_search_207 : decode cX12_search 207 = .ok (.if_icmp .ne 5, 3) := by decide +kernel
theorem dX12_search_210 : decode cX12_search 210 = .ok (.iconst 0, 1) := by decide +kernel
theorem dX12_search_211 : decode cX12_search 211 = .ok (.ireturn, 1) := by decide +kernel
theorem dX12_search_212 : decode cX12_search 212 = .ok (.aload_n 0, 1) := by decide +kernel
theorem dX12_search_213 : decode cX12_search 213 = .ok (.dup, 1) := by decide +kernel
theorem dX12_search_214 : decode cX12_search 214 = .ok (.getfield 176, 3) := by decide +kernel
theorem dX12_search_217 : decode cX12_search 217 = .ok (.iconst 1, 1) := by decide +kernel
theorem dX12_search_218 : decode cX12_search 218 = .ok (.iadd, 1) := by decide +kernel
theorem dX12_search_219 : decode cX12_search 219 = .ok (.putfield 176, 3) := by decide +kernel
theorem dX12_search_222 : decode cX12_search 222 = .ok (.aload_n 0, 1) := by decide +kernel
theorem dX12_search_223 : decode cX12_search 223 = .ok (.getfield 47, 3) := by decide +kernel
theorem dX12_search_226 : decode cX12_search 226 = .ok (.aload_n 0, 1) := by decide +kernel
theorem dX12_search_227 : decode cX12_search 227 = .ok (.getfield 164, 3) := by decide +kernel
theorem dX12_search_230 : decode cX12_search 230 = .ok (.iload_n 1, 1) := by decide +kernel
theorem dX12_search_231 : decode cX12_search 231 = .ok (.iastore, 1) := by decide +kernel
theorem dX12_search_232 : decode cX12_search 232 = .ok (.aload_n 0, 1) := by decide +kernel
theorem dX12_search_233 : decode cX12_search 233 = .ok (.dup, 1) := by decide +kernel
theorem dX12_search_234 : decode cX12_search 234 = .ok (.getfield 164, 3) := by decide +kernel
theorem dX12_search_237 : decode cX12_search 237 = .ok (.iconst 1, 1) := by decide +kernel
theorem dX12_search_238 : decode cX12_search 238 = .ok (.iadd, 1) := by decide +kernel
theorem dX12_search_239 : decode cX12_search 239 = .ok (.putfield 164, 3) := by decide +kernel
theorem dX12_search_242 : decode cX12_search 242 = .ok (.aload_n 0, 1) := by decide +kernel
theorem dX12_search_243 : decode cX12_search 243 = .ok (.getfield 50, 3) := by decide +kernel
theorem dX12_search_246 : decode cX12_search 246 = .ok (.aload_n 0, 1) := by decide +kernel
theorem dX12_search_247 : decode cX12_search 247 = .ok (.getfield 164, 3) := by decide +kernel
theorem dX12_search_250 : decode cX12_search 250 = .ok (.iload_n 2, 1) := by decide +kernel
theorem dX12_search_251 : decode cX12_search 251 = .ok (.iastore, 1) := by decide +kernel
theorem dX12_search_252 : decode cX12_search 252 = .ok (.aload_n 0, 1) := by decide +kernel
theorem dX12_search_253 : decode cX12_search 253 = .ok (.getfield 56, 3) := by decide +kernel
theorem dX12_search_256 : decode cX12_search 256 = .ok (.aload_n 0, 1) := by decide +kernel
theorem dX12_search_257 : decode cX12_search 257 = .ok (.getfield 164, 3) := by decide +kernel
theorem dX12_search_260 : decode cX12_search 260 = .ok (.aload_n 0, 1) := by decide +kernel
theorem dX12_search_261 : decode cX12_search 261 = .ok (.getfield 56, 3) := by decide +kernel
theorem dX12_search_264 : decode cX12_search 264 = .ok (.aload_n 0, 1) := by decide +kernel
theorem dX12_search_265 : decode cX12_search 265 = .ok (.getfield 164, 3) := by decide +kernel
theorem dX12_search_268 : decode cX12_search 268 = .ok (.iconst 1, 1) := by decide +kernel
theorem dX12_search_269 : decode cX12_search 269 = .ok (.isub, 1) := by decide +kernel
theorem dX12_search_270 : decode cX12_search 270 = .ok (.iaload, 1) := by decide +kernel
theorem dX12_search_271 : decode cX12_search 271 = .ok (.aload_n 0, 1) := by decide +kernel
theorem dX12_search_272 : decode cX12_search 272 = .ok (.getfield 16, 3) := by decide +kernel
theorem dX12_search_275 : decode cX12_search 275 = .ok (.iload_n 1, 1) := by decide +kernel
theorem dX12_search_276 : decode cX12_search 276 = .ok (.iaload, 1) := by decide +kernel
theorem dX12_search_277 : decode cX12_search 277 = .ok (.iadd, 1) := by decide +kernel
theorem dX12_search_278 : decode cX12_search 278 = .ok (.iastore, 1) := by decide +kernel
theorem dX12_search_279 : decode cX12_search 279 = .ok (.aload_n 0, 1) := by decide +kernel
theorem dX12_search_280 : decode cX12_search 280 = .ok (.getfield 53, 3) := by decide +kernel
theorem dX12_search_283 : decode cX12_search 283 = .ok (.aload_n 0, 1) := by decide +kernel
theorem dX12_search_284 : decode cX12_search 284 = .ok (.getfield 164, 3) := by decide +kernel
theorem dX12_search_287 : decode cX12_search 287 = .ok (.aload_n 0, 1) := by decide +kernel
theorem dX12_search_288 : decode cX12_search 288 = .ok (.getfield 53, 3) := by decide +kernel
theorem dX12_search_291 : decode cX12_search 291 = .ok (.aload_n 0, 1) := by decide +kernel
theorem dX12_search_292 : decode cX12_search 292 = .ok (.getfield 164, 3) := by decide +kernel
theorem dX12_search_295 : decode cX12_search 295 = .ok (.iconst 1, 1) := by decide +kernel
theorem dX12_search_296 : decode cX12_search 296 = .ok (.isub, 1) := by decide +kernel
theorem dX12_search_297 : decode cX12_search 297 = .ok (.iaload, 1) := by decide +kernel
theorem dX12_search_298 : decode cX12_search 298 = .ok (.aload_n 0, 1) := by decide +kernel
theorem dX12_search_299 : decode cX12_search 299 = .ok (.getfield 53, 3) := by decide +kernel
theorem dX12_search_302 : decode cX12_search 302 = .ok (.aload_n 0, 1) := by decide +kernel
theorem dX12_search_303 : decode cX12_search 303 = .ok (.getfield 164, 3) := by decide +kernel
theorem dX12_search_306 : decode cX12_search 306 = .ok (.iconst 1, 1) := by decide +kernel
theorem dX12_search_307 : decode cX12_search 307 = .ok (.isub, 1) := by decide +kernel
theorem dX12_search_308 : decode cX12_search 308 = .ok (.iaload, 1) := by decide +kernel
theorem dX12_search_309 : decode cX12_search 309 = .ok (.aload_n 0, 1) := by decide +kernel
theorem dX12_search_310 : decode cX12_search 310 = .ok (.getfield 161, 3) := by decide +kernel
theorem dX12_search_313 : decode cX12_search 313 = .ok (.if_icmp .ge 27, 3) := by decide +kernel
theorem dX12_search_316 : decode cX12_search 316 = .ok (.aload_n 0, 1) := by decide +kernel
theorem dX12_search_317 : decode cX12_search 317 = .ok (.getfield 41, 3) := by decide +kernel
theorem dX12_search_320 : decode cX12_search 320 = .ok (.aload_n 0, 1) := by decide +kernel
theorem dX12_search_321 : decode cX12_search 321 = .ok (.getfield 53, 3) := by decide +kernel
theorem dX12_search_324 : decode cX12_search 324 = .ok (.aload_n 0, 1) := by decide +kernel
theorem dX12_search_325 : decode cX12_search 325 = .ok (.getfield 164, 3) := by decide +kernel
theorem dX12_search_328 : decode cX12_search 328 = .ok (.iconst 1, 1) := by decide +kernel
theorem dX12_search_329 : decode cX12_search 329 = .ok (.isub, 1) := by decide +kernel
theorem dX12_search_330 : decode cX12_search 330 = .ok (.iaload, 1) := by decide +kernel
theorem dX12_search_331 : decode cX12_search 331 = .ok (.iaload, 1) := by decide +kernel
theorem dX12_search_332 : decode cX12_search 332 = .ok (.iload_n 2, 1) := by decide +kernel
theorem dX12_search_333 : decode cX12_search 333 = .ok (.if_icmp .ne 7, 3) := by decide +kernel
theorem dX12_search_336 : decode cX12_search 336 = .ok (.iconst 1, 1) := by decide +kernel
theorem dX12_search_337 : decode cX12_search 337 = .ok (.goto 4, 3) := by decide +kernel
theorem dX12_search_340 : decode cX12_search 340 = .ok (.iconst 0, 1) := by decide +kernel
theorem dX12_search_341 : decode cX12_search 341 = .ok (.iadd, 1) := by decide +kernel
theorem dX12_search_342 : decode cX12_search 342 = .ok (.iastore, 1) := by decide +kernel
theorem dX12_search_343 : decode cX12_search 343 = .ok (.aload_n 0, 1) := by decide +kernel
theorem dX12_search_344 : decode cX12_search 344 = .ok (.getfield 47, 3) := by decide +kernel
theorem dX12_search_347 : decode cX12_search 347 = .ok (.aload_n 0, 1) := by decide +kernel
theorem dX12_search_348 : decode cX12_search 348 = .ok (.getfield 164, 3) := by decide +kernel
theorem dX12_search_351 : decode cX12_search 351 = .ok (.iconst (-1), 1) := by decide +kernel
theorem dX12_search_352 : decode cX12_search 352 = .ok (.iastore, 1) := by decide +kernel
theorem dX12_search_353 : decode cX12_search 353 = .ok (.aload_n 0, 1) := by decide +kernel
theorem dX12_search_354 : decode cX12_search 354 = .ok (.invokevirtual 186, 3) := by decide +kernel
theorem dX12_search_357 : decode cX12_search 357 = .ok (.goto (-304), 3) := by decide +kernel
theorem dX12_search_360 : decode cX12_search 360 = .ok (.iconst 1, 1) := by decide +kernel
theorem dX12_search_361 : decode cX12_search 361 = .ok (.ireturn, 1) := by decide +kernel
theorem dX12_ways_0 : decode cX12_ways 0 = .ok (.aload_n 0, 1) := by decide +kernel
theorem dX12_ways_1 : decode cX12_ways 1 = .ok (.getfield 161, 3) := by decide +kernel
theorem dX12_ways_4 : decode cX12_ways 4 = .ok (.ifCond .ne 6, 3) := by decide +kernel
theorem dX12_ways_7 : decode cX12_ways 7 = .ok (.bipush (-3), 2) := by decide +kernel
theorem dX12_ways_9 : decode cX12_ways 9 = .ok (.ireturn, 1) := by decide +kernel
theorem dX12_ways_10 : decode cX12_ways 10 = .ok (.aload_n 0, 1) := by decide +kernel
theorem dX12_ways_11 : decode cX12_ways 11 = .ok (.invokevirtual 189, 3) := by decide +kernel
theorem dX12_ways_14 : decode cX12_ways 14 = .ok (.ifCond .ne 8, 3) := by decide +kernel
theorem dX12_ways_17 : decode cX12_ways 17 = .ok (.bipush (-6), 2) := by decide +kernel
theorem dX12_ways_19 : decode cX12_ways 19 = .ok (.goto 20, 3) := by decide +kernel
theorem dX12_ways_22 : decode cX12_ways 22 = .ok (.aload_n 0, 1) := by decide +kernel
theorem dX12_ways_23 : decode cX12_ways 23 = .ok (.getfield 167, 3) := by decide +kernel
theorem dX12_ways_26 : decode cX12_ways 26 = .ok (.ifCond .ge 7, 3) := by decide +kernel
theorem dX12_ways_29 : decode cX12_ways 29 = .ok (.iconst 0, 1) := by decide +kernel
theorem dX12_ways_30 : decode cX12_ways 30 = .ok (.goto 9, 3) := by decide +kernel
theorem dX12_ways_33 : decode cX12_ways 33 = .ok (.iconst 1, 1) := by decide +kernel
theorem dX12_ways_34 : decode cX12_ways 34 = .ok (.aload_n 0, 1) := by decide +kernel
theorem dX12_ways_35 : decode cX12_ways 35 = .ok (.getfield 173, 3) := by decide +kernel
theorem dX12_ways_38 : decode cX12_ways 38 = .ok (.iadd, 1) := by decide +kernel
theorem dX12_ways_39 : decode cX12_ways 39 = .ok (.ireturn, 1) := by decide +kernel
theorem dX12_lay_0 : decode cX12_lay 0 = .ok (.aload_n 0, 1) := by decide +kernel
theorem dX12_lay_1 : decode cX12_lay 1 = .ok (.getfield 161, 3) := by decide +kernel
theorem dX12_lay_4 : decode cX12_lay 4 = .ok (.ifCond .ne 6, 3) := by decide +kernel
theorem dX12_lay_7 : decode cX12_lay 7 = .ok (.bipush (-3), 2) := by decide +kernel
theorem dX12_lay_9 : decode cX12_lay 9 = .ok (.ireturn, 1) := by decide +kernel
theorem dX12_lay_10 : decode cX12_lay 10 = .ok (.aload_n 0, 1) := by decide +kernel
theorem dX12_lay_11 : decode cX12_lay 11 = .ok (.invokevirtual 189, 3) := by decide +kernel
theorem dX12_lay_14 : decode cX12_lay 14 = .ok (.ifCond .ne 6, 3) := by decide +kernel
theorem dX12_lay_17 : decode cX12_lay 17 = .ok (.bipush (-6), 2) := by decide +kernel
theorem dX12_lay_19 : decode cX12_lay 19 = .ok (.ireturn, 1) := by decide +kernel
theorem dX12_lay_20 : decode cX12_lay 20 = .ok (.aload_n 0, 1) := by decide +kernel
theorem dX12_lay_21 : decode cX12_lay 21 = .ok (.getfield 167, 3) := by decide +kernel
theorem dX12_lay_24 : decode cX12_lay 24 = .ok (.ifCond .ge 6, 3) := by decide +kernel
theorem dX12_lay_27 : decode cX12_lay 27 = .ok (.bipush (-9), 2) := by decide +kernel
theorem dX12_lay_29 : decode cX12_lay 29 = .ok (.ireturn, 1) := by decide +kernel
theorem dX12_lay_30 : decode cX12_lay 30 = .ok (.aload_n 0, 1) := by decide +kernel
theorem dX12_lay_31 : decode cX12_lay 31 = .ok (.aload_n 0, 1) := by decide +kernel
theorem dX12_lay_32 : decode cX12_lay 32 = .ok (.getfield 170, 3) := by decide +kernel
theorem dX12_lay_35 : decode cX12_lay 35 = .ok (.putfield 95, 3) := by decide +kernel
theorem dX12_lay_38 : decode cX12_lay 38 = .ok (.aload_n 0, 1) := by decide +kernel
theorem dX12_lay_39 : decode cX12_lay 39 = .ok (.aload_n 0, 1) := by decide +kernel
theorem dX12_lay_40 : decode cX12_lay 40 = .ok (.getfield 167, 3) := by decide +kernel
theorem dX12_lay_43 : decode cX12_lay 43 = .ok (.putfield 193, 3) := by decide +kernel
theorem dX12_lay_46 : decode cX12_lay 46 = .ok (.iconst 0, 1) := by decide +kernel
theorem dX12_lay_47 : decode cX12_lay 47 = .ok (.istore_n 1, 1) := by decide +kernel
theorem dX12_lay_48 : decode cX12_lay 48 = .ok (.iload_n 1, 1) := by decide +kernel
theorem dX12_lay_49 : decode cX12_lay 49 = .ok (.aload_n 0, 1) := by decide +kernel
theorem dX12_lay_50 : decode cX12_lay 50 = .ok (.getfield 170, 3) := by decide +kernel
theorem dX12_lay_53 : decode cX12_lay 53 = .ok (.if_icmp .ge 21, 3) := by decide +kernel
theorem dX12_lay_56 : decode cX12_lay 56 = .ok (.aload_n 0, 1) := by decide +kernel
theorem dX12_lay_57 : decode cX12_lay 57 = .ok (.getfield 59, 3) := by decide +kernel
theorem dX12_lay_60 : decode cX12_lay 60 = .ok (.iload_n 1, 1) := by decide +kernel
theorem dX12_lay_61 : decode cX12_lay 61 = .ok (.aload_n 0, 1) := by decide +kernel
theorem dX12_lay_62 : decode cX12_lay 62 = .ok (.getfield 44, 3) := by decide +kernel
theorem dX12_lay_65 : decode cX12_lay 65 = .ok (.iload_n 1, 1) := by decide +kernel
theorem dX12_lay_66 : decode cX12_lay 66 = .ok (.iaload, 1) := by decide +kernel
theorem dX12_lay_67 : decode cX12_lay 67 = .ok (.iastore, 1) := by decide +kernel
theorem dX12_lay_68 : decode cX12_lay 68 = .ok (.iinc 1 1, 3) := by decide +kernel
theorem dX12_lay_71 : decode cX12_lay 71 = .ok (.goto (-23), 3) := by decide +kernel
theorem dX12_lay_74 : decode cX12_lay 74 = .ok (.aload_n 0, 1) := by decide +kernel
theorem dX12_lay_75 : decode cX12_lay 75 = .ok (.iconst 0, 1) := by decide +kernel
theorem dX12_lay_76 : decode cX12_lay 76 = .ok (.putfield 196, 3) := by decide +kernel
theorem dX12_lay_79 : decode cX12_lay 79 = .ok (.aload_n 0, 1) := by decide +kernel
theorem dX12_lay_80 : decode cX12_lay 80 = .ok (.iconst 0, 1) := by decide +kernel
theorem dX12_lay_81 : decode cX12_lay 81 = .ok (.putfield 199, 3) := by decide +kernel
theorem dX12_lay_84 : decode cX12_lay 84 = .ok (.aload_n 0, 1) := by decide +kernel
theorem dX12_lay_85 : decode cX12_lay 85 = .ok (.iconst 0, 1) := by decide +kernel
theorem dX12_lay_86 : decode cX12_lay 86 = .ok (.putfield 202, 3) := by decide +kernel
theorem dX12_lay_89 : decode cX12_lay 89 = .ok (.iconst 0, 1) := by decide +kernel
theorem dX12_lay_90 : decode cX12_lay 90 = .ok (.istore_n 1, 1) := by decide +kernel
theorem dX12_lay_91 : decode cX12_lay 91 = .ok (.iload_n 1, 1) := by decide +kernel
theorem dX12_lay_92 : decode cX12_lay 92 = .ok (.bipush 64, 2) := by decide +kernel
theorem dX12_lay_94 : decode cX12_lay 94 = .ok (.if_icmp .ge 23, 3) := by decide +kernel
theorem dX12_lay_97 : decode cX12_lay 97 = .ok (.aload_n 0, 1) := by decide +kernel
theorem dX12_lay_98 : decode cX12_lay 98 = .ok (.getfield 86, 3) := by decide +kernel
theorem dX12_lay_101 : decode cX12_lay 101 = .ok (.iload_n 1, 1) := by decide +kernel
theorem dX12_lay_102 : decode cX12_lay 102 = .ok (.iconst 0, 1) := by decide +kernel
theorem dX12_lay_103 : decode cX12_lay 103 = .ok (.iastore, 1) := by decide +kernel
theorem dX12_lay_104 : decode cX12_lay 104 = .ok (.aload_n 0, 1) := by decide +kernel
theorem dX12_lay_105 : decode cX12_lay 105 = .ok (.getfield 92, 3) := by decide +kernel
theorem dX12_lay_108 : decode cX12_lay 108 = .ok (.iload_n 1, 1) := by decide +kernel
theorem dX12_lay_109 : decode cX12_lay 109 = .ok (.iconst 0, 1) := by decide +kernel
theorem dX12_lay_110 : decode cX12_lay 110 = .ok (.iastore, 1) := by decide +kernel
theorem dX12_lay_111 : decode cX12_lay 111 = .ok (.iinc 1 1, 3) := by decide +kernel
theorem dX12_lay_114 : decode cX12_lay 114 = .ok (.goto (-23), 3) := by decide +kernel
theorem dX12_lay_117 : decode cX12_lay 117 = .ok (.aload_n 0, 1) := by decide +kernel
theorem dX12_lay_118 : decode cX12_lay 118 = .ok (.getfield 95, 3) := by decide +kernel
theorem dX12_lay_121 : decode cX12_lay 121 = .ok (.ireturn, 1) := by decide +kernel
theorem dX12_laid_0 : decode cX12_laid 0 = .ok (.iload_n 1, 1) := by decide +kernel
theorem dX12_laid_1 : decode cX12_laid 1 = .ok (.i2l, 1) := by decide +kernel
theorem dX12_laid_2 : decode cX12_laid 2 = .ok (.lconst 0, 1) := by decide +kernel
theorem dX12_laid_3 : decode cX12_laid 3 = .ok (.aload_n 0, 1) := by decide +kernel
theorem dX12_laid_4 : decode cX12_laid 4 = .ok (.getfield 95, 3) := by decide +kernel
theorem dX12_laid_7 : decode cX12_laid 7 = .ok (.i2l, 1) := by decide +kernel
theorem dX12_laid_8 : decode cX12_laid 8 = .ok (.lconst 1, 1) := by decide +kernel
theorem dX12_laid_9 : decode cX12_laid 9 = .ok (.lsub, 1) := by decide +kernel
theorem dX12_laid_10 : decode cX12_laid 10 = .ok (.invokestatic 111, 3) := by decide +kernel
theorem dX12_laid_13 : decode cX12_laid 13 = .ok (.ifCond .eq 12, 3) := by decide +kernel
theorem dX12_laid_16 : decode cX12_laid 16 = .ok (.aload_n 0, 1) := by decide +kernel
theorem dX12_laid_17 : decode cX12_laid 17 = .ok (.getfield 59, 3) := by decide +kernel
theorem dX12_laid_20 : decode cX12_laid 20 = .ok (.iload_n 1, 1) := by decide +kernel
theorem dX12_laid_21 : decode cX12_laid 21 = .ok (.iaload, 1) := by decide +kernel
theorem dX12_laid_22 : decode cX12_laid 22 = .ok (.goto 4, 3) := by decide +kernel
theorem dX12_laid_25 : decode cX12_laid 25 = .ok (.iconst (-1), 1) := by decide +kernel
theorem dX12_laid_26 : decode cX12_laid 26 = .ok (.ireturn, 1) := by decide +kernel
theorem dX12_wasAhead_0 : decode cX12_wasAhead 0 = .ok (.iconst 0, 1) := by decide +kernel
theorem dX12_wasAhead_1 : decode cX12_wasAhead 1 = .ok (.istore 4, 2) := by decide +kernel
theorem dX12_wasAhead_3 : decode cX12_wasAhead 3 = .ok (.iconst 0, 1) := by decide +kernel
theorem dX12_wasAhead_4 : decode cX12_wasAhead 4 = .ok (.istore 5, 2) := by decide +kernel
theorem dX12_wasAhead_6 : decode cX12_wasAhead 6 = .ok (.iload 5, 2) := by decide +kernel
theorem dX12_wasAhead_8 : decode cX12_wasAhead 8 = .ok (.iload_n 3, 1) := by decide +kernel
theorem dX12_wasAhead_9 : decode cX12_wasAhead 9 = .ok (.if_icmp .ge 51, 3) := by decide +kernel
theorem dX12_wasAhead_12 : decode cX12_wasAhead 12 = .ok (.iload 4, 2) := by decide +kernel
theorem dX12_wasAhead_14 : decode cX12_wasAhead 14 = .ok (.ifCond .ne 33, 3) := by decide +kernel
theorem dX12_wasAhead_17 : decode cX12_wasAhead 17 = .ok (.aload_n 0, 1) := by decide +kernel
theorem dX12_wasAhead_18 : decode cX12_wasAhead 18 = .ok (.getfield 35, 3) := by decide +kernel
theorem dX12_wasAhead_21 : decode cX12_wasAhead 21 = .ok (.bipush 32, 2) := by decide +kernel
theorem dX12_wasAhead_23 : decode cX12_wasAhead 23 = .ok (.iload_n 1, 1) := by decide +kernel
theorem dX12_wasAhead_24 : decode cX12_wasAhead 24 = .ok (.imul, 1) := by decide +kernel
theorem dX12_wasAhead_25 : decode cX12_wasAhead 25 = .ok (.iload_n 2, 1) := by decide +kernel
theorem dX12_wasAhead_26 : decode cX12_wasAhead 26 = .ok (.iadd, 1) := by decide +kernel
theorem dX12_wasAhead_27 : decode cX12_wasAhead 27 = .ok (.iload 5, 2) := by decide +kernel
theorem dX12_wasAhead_29 : decode cX12_wasAhead 29 = .ok (.iadd, 1) := by decide +kernel
theorem dX12_wasAhead_30 : decode cX12_wasAhead 30 = .ok (.iaload, 1) := by decide +kernel
theorem dX12_wasAhead_31 : decode cX12_wasAhead 31 = .ok (.aload_n 0, 1) := by decide +kernel
theorem dX12_wasAhead_32 : decode cX12_wasAhead 32 = .ok (.getfield 35, 3) := by decide +kernel
theorem dX12_wasAhead_35 : decode cX12_wasAhead 35 = .ok (.bipush 32, 2) := by decide +kernel
theorem dX12_wasAhead_37 : decode cX12_wasAhead 37 = .ok (.iload_n 1, 1) := by decide +kernel
theorem dX12_wasAhead_38 : decode cX12_wasAhead 38 = .ok (.imul, 1) := by decide +kernel
theorem dX12_wasAhead_39 : decode cX12_wasAhead 39 = .ok (.iload_n 2, 1) := by decide +kernel
theorem dX12_wasAhead_40 : decode cX12_wasAhead 40 = .ok (.iadd, 1) := by decide +kernel
theorem dX12_wasAhead_41 : decode cX12_wasAhead 41 = .ok (.iload_n 3, 1) := by decide +kernel
theorem dX12_wasAhead_42 : decode cX12_wasAhead 42 = .ok (.iadd, 1) := by decide +kernel
theorem dX12_wasAhead_43 : decode cX12_wasAhead 43 = .ok (.iaload, 1) := by decide +kernel
theorem dX12_wasAhead_44 : decode cX12_wasAhead 44 = .ok (.if_icmp .ne 7, 3) := by decide +kernel
theorem dX12_wasAhead_47 : decode cX12_wasAhead 47 = .ok (.iconst 1, 1) := by decide +kernel
theorem dX12_wasAhead_48 : decode cX12_wasAhead 48 = .ok (.goto 4, 3) := by decide +kernel
theorem dX12_wasAhead_51 : decode cX12_wasAhead 51 = .ok (.iconst 0, 1) := by decide +kernel
theorem dX12_wasAhead_52 : decode cX12_wasAhead 52 = .ok (.istore 4, 2) := by decide +kernel
theorem dX12_wasAhead_54 : decode cX12_wasAhead 54 = .ok (.iinc 5 1, 3) := by decide +kernel
theorem dX12_wasAhead_57 : decode cX12_wasAhead 57 = .ok (.goto (-51), 3) := by decide +kernel
theorem dX12_wasAhead_60 : decode cX12_wasAhead 60 = .ok (.iload 4, 2) := by decide +kernel
theorem dX12_wasAhead_62 : decode cX12_wasAhead 62 = .ok (.ireturn, 1) := by decide +kernel
theorem dX12_proved_0 : decode cX12_proved 0 = .ok (.aload_n 0, 1) := by decide +kernel
theorem dX12_proved_1 : decode cX12_proved 1 = .ok (.getfield 41, 3) := by decide +kernel
theorem dX12_proved_4 : decode cX12_proved 4 = .ok (.iconst 0, 1) := by decide +kernel
theorem dX12_proved_5 : decode cX12_proved 5 = .ok (.iaload, 1) := by decide +kernel
theorem dX12_proved_6 : decode cX12_proved 6 = .ok (.istore 4, 2) := by decide +kernel
theorem dX12_proved_8 : decode cX12_proved 8 = .ok (.iconst 1, 1) := by decide +kernel
theorem dX12_proved_9 : decode cX12_proved 9 = .ok (.istore 5, 2) := by decide +kernel
theorem dX12_proved_11 : decode cX12_proved 11 = .ok (.lconst 0, 1) := by decide +kernel
theorem dX12_proved_12 : decode cX12_proved 12 = .ok (.lstore 6, 2) := by decide +kernel
theorem dX12_proved_14 : decode cX12_proved 14 = .ok (.iconst 0, 1) := by decide +kernel
theorem dX12_proved_15 : decode cX12_proved 15 = .ok (.istore 8, 2) := by decide +kernel
theorem dX12_proved_17 : decode cX12_proved 17 = .ok (.iload 8, 2) := by decide +kernel
theorem dX12_proved_19 : decode cX12_proved 19 = .ok (.iload_n 3, 1) := by decide +kernel
theorem dX12_proved_20 : decode cX12_proved 20 = .ok (.if_icmp .ge 120, 3) := by decide +kernel
theorem dX12_proved_23 : decode cX12_proved 23 = .ok (.aload_n 0, 1) := by decide +kernel
theorem dX12_proved_24 : decode cX12_proved 24 = .ok (.getfield 35, 3) := by decide +kernel
theorem dX12_proved_27 : decode cX12_proved 27 = .ok (.bipush 32, 2) := by decide +kernel
theorem dX12_proved_29 : decode cX12_proved 29 = .ok (.iload_n 1, 1) := by decide +kernel
theorem dX12_proved_30 : decode cX12_proved 30 = .ok (.imul, 1) := by decide +kernel
theorem dX12_proved_31 : decode cX12_proved 31 = .ok (.iload_n 2, 1) := by decide +kernel
theorem dX12_proved_32 : decode cX12_proved 32 = .ok (.iadd, 1) := by decide +kernel
theorem dX12_proved_33 : decode cX12_proved 33 = .ok (.iload 8, 2) := by decide +kernel
theorem dX12_proved_35 : decode cX12_proved 35 = .ok (.iadd, 1) := by decide +kernel
theorem dX12_proved_36 : decode cX12_proved 36 = .ok (.iaload, 1) := by decide +kernel
theorem dX12_proved_37 : decode cX12_proved 37 = .ok (.istore 9, 2) := by decide +kernel
theorem dX12_proved_39 : decode cX12_proved 39 = .ok (.aload_n 0, 1) := by decide +kernel
theorem dX12_proved_40 : decode cX12_proved 40 = .ok (.iload 9, 2) := by decide +kernel
theorem dX12_proved_42 : decode cX12_proved 42 = .ok (.invokevirtual 125, 3) := by decide +kernel
theorem dX12_proved_45 : decode cX12_proved 45 = .ok (.ifCond .ne 14, 3) := by decide +kernel
theorem dX12_proved_48 : decode cX12_proved 48 = .ok (.aload_n 0, 1) := by decide +kernel
theorem dX12_proved_49 : decode cX12_proved 49 = .ok (.iload_n 1, 1) := by decide +kernel
theorem dX12_proved_50 : decode cX12_proved 50 = .ok (.iload_n 2, 1) := by decide +kernel
theorem dX12_proved_51 : decode cX12_proved 51 = .ok (.iload 8, 2) := by decide +kernel
theorem dX12_proved_53 : decode cX12_proved 53 = .ok (.invokevirtual 205, 3) := by decide +kernel
theorem dX12_proved_56 : decode cX12_proved 56 = .ok (.ifCond .eq 7, 3) := by decide +kernel
theorem dX12_proved_59 : decode cX12_proved 59 = .ok (.iconst (-1), 1) := by decide +kernel
theorem dX12_proved_60 : decode cX12_proved 60 = .ok (.goto 11, 3) := by decide +kernel
theorem dX12_proved_63 : decode cX12_proved 63 = .ok (.aload_n 0, 1) := by decide +kernel
theorem dX12_proved_64 : decode cX12_proved 64 = .ok (.iload 9, 2) := by decide +kernel
theorem dX12_proved_66 : decode cX12_proved 66 = .ok (.iload 4, 2) := by decide +kernel
theorem dX12_proved_68 : decode cX12_proved 68 = .ok (.invokevirtual 182, 3) := by decide +kernel
theorem dX12_proved_71 : decode cX12_proved 71 = .ok (.istore 10, 2) := by decide +kernel
theorem dX12_proved_73 : decode cX12_proved 73 = .ok (.iload 10, 2) := by decide +kernel
theorem dX12_proved_75 : decode cX12_proved 75 = .ok (.ifCond .ge 11, 3) := by decide +kernel
theorem dX12_proved_78 : decode cX12_proved 78 = .ok (.ldc2_w 208, 3) := by decide +kernel
theorem dX12_proved_81 : decode cX12_proved 81 = .ok (.iload 8, 2) := by decide +kernel
theorem dX12_proved_83 : decode cX12_proved 83 = .ok (.i2l, 1) := by decide +kernel
theorem dX12_proved_84 : decode cX12_proved 84 = .ok (.lsub, 1) := by decide +kernel
theorem dX12_proved_85 : decode cX12_proved 85 = .ok (.lreturn, 1) := by decide +kernel
theorem dX12_proved_86 : decode cX12_proved 86 = .ok (.iload 10, 2) := by decide +kernel
theorem dX12_proved_88 : decode cX12_proved 88 = .ok (.istore 4, 2) := by decide +kernel
theorem dX12_proved_90 : decode cX12_proved 90 = .ok (.iload 5, 2) := by decide +kernel
theorem dX12_proved_92 : decode cX12_proved 92 = .ok (.iload 5, 2) := by decide +kernel
theorem dX12_proved_94 : decode cX12_proved 94 = .ok (.aload_n 0, 1) := by decide +kernel
theorem dX12_proved_95 : decode cX12_proved 95 = .ok (.getfield 161, 3) := by decide +kernel
theorem dX12_proved_98 : decode cX12_proved 98 = .ok (.if_icmp .ge 19, 3) := by decide +kernel
theorem dX12_proved_101 : decode cX12_proved 101 = .ok (.aload_n 0, 1) := by decide +kernel
theorem dX12_proved_102 : decode cX12_proved 102 = .ok (.getfield 41, 3) := by decide +kernel
theorem dX12_proved_105 : decode cX12_proved 105 = .ok (.iload 5, 2) := by decide +kernel
theorem dX12_proved_107 : decode cX12_proved 107 = .ok (.iaload, 1) := by decide +kernel
theorem dX12_proved_108 : decode cX12_proved 108 = .ok (.iload 4, 2) := by decide +kernel
theorem dX12_proved_110 : decode cX12_proved 110 = .ok (.if_icmp .ne 7, 3) := by decide +kernel
theorem dX12_proved_113 : decode cX12_proved 113 = .ok (.iconst 1, 1) := by decide +kernel
theorem dX12_proved_114 : decode cX12_proved 114 = .ok (.goto 4, 3) := by decide +kernel
theorem dX12_proved_117 : decode cX12_proved 117 = .ok (.iconst 0, 1) := by decide +kernel
theorem dX12_proved_118 : decode cX12_proved 118 = .ok (.iadd, 1) := by decide +kernel
theorem dX12_proved_119 : decode cX12_proved 119 = .ok (.istore 5, 2) := by decide +kernel
theorem dX12_proved_121 : decode cX12_proved 121 = .ok (.lload 6, 2) := by decide +kernel
theorem dX12_proved_123 : decode cX12_proved 123 = .ok (.aload_n 0, 1) := by decide +kernel
theorem dX12_proved_124 : decode cX12_proved 124 = .ok (.getfield 16, 3) := by decide +kernel
theorem dX12_proved_127 : decode cX12_proved 127 = .ok (.iload 9, 2) := by decide +kernel
theorem dX12_proved_129 : decode cX12_proved 129 = .ok (.iaload, 1) := by decide +kernel
theorem dX12_proved_130 : decode cX12_proved 130 = .ok (.i2l, 1) := by decide +kernel
theorem dX12_proved_131 : decode cX12_proved 131 = .ok (.ladd, 1) := by decide +kernel
theorem dX12_proved_132 : decode cX12_proved 132 = .ok (.lstore 6, 2) := by decide +kernel
theorem dX12_proved_134 : decode cX12_proved 134 = .ok (.iinc 8 1, 3) := by decide +kernel
theorem dX12_proved_137 : decode cX12_proved 137 = .ok (.goto (-120), 3) := by decide +kernel
theorem dX12_proved_140 : decode cX12_proved 140 = .ok (.iload_n 3, 1) := by decide +kernel
theorem dX12_proved_141 : decode cX12_proved 141 = .ok (.ifCond .eq 34, 3) := by decide +kernel
theorem dX12_proved_144 : decode cX12_proved 144 = .ok (.iload_n 3, 1) := by decide +kernel
theorem dX12_proved_145 : decode cX12_proved 145 = .ok (.bipush 10, 2) := by decide +kernel
theorem dX12_proved_147 : decode cX12_proved 147 = .ok (.if_icmp .gt 28, 3) := by decide +kernel
theorem dX12_proved_150 : decode cX12_proved 150 = .ok (.iload 5, 2) := by decide +kernel
theorem dX12_proved_152 : decode cX12_proved 152 = .ok (.aload_n 0, 1) := by decide +kernel
theorem dX12_proved_153 : decode cX12_proved 153 = .ok (.getfield 161, 3) := by decide +kernel
theorem dX12_proved_156 : decode cX12_proved 156 = .ok (.if_icmp .lt 19, 3) := by decide +kernel
theorem dX12_proved_159 : decode cX12_proved 159 = .ok (.iload 4, 2) := by decide +kernel
theorem dX12_proved_161 : decode cX12_proved 161 = .ok (.aload_n 0, 1) := by decide +kernel
theorem dX12_proved_162 : decode cX12_proved 162 = .ok (.getfield 41, 3) := by decide +kernel
theorem dX12_proved_165 : decode cX12_proved 165 = .ok (.aload_n 0, 1) := by decide +kernel
theorem dX12_proved_166 : decode cX12_proved 166 = .ok (.getfield 161, 3) := by decide +kernel
theorem dX12_proved_169 : decode cX12_proved 169 = .ok (.iconst 1, 1) := by decide +kernel
theorem dX12_proved_170 : decode cX12_proved 170 = .ok (.isub, 1) := by decide +kernel
theorem dX12_proved_171 : decode cX12_proved 171 = .ok (.iaload, 1) := by decide +kernel
theorem dX12_proved_172 : decode cX12_proved 172 = .ok (.if_icmp .eq 9, 3) := by decide +kernel
theorem dX12_proved_175 : decode cX12_proved 175 = .ok (.ldc2_w 210, 3) := by decide +kernel
theorem dX12_proved_178 : decode cX12_proved 178 = .ok (.goto 5, 3) := by decide +kernel
theorem dX12_proved_181 : decode cX12_proved 181 = .ok (.lload 6, 2) := by decide +kernel
theorem dX12_proved_183 : decode cX12_proved 183 = .ok (.lreturn, 1) := by decide +kernel
theorem dX12_proof_0 : decode cX12_proof 0 = .ok (.aload_n 0, 1) := by decide +kernel
theorem dX12_proof_1 : decode cX12_proof 1 = .ok (.iconst 0, 1) := by decide +kernel
theorem dX12_proof_2 : decode cX12_proof 2 = .ok (.putfield 101, 3) := by decide +kernel
theorem dX12_proof_5 : decode cX12_proof 5 = .ok (.iload_n 1, 1) := by decide +kernel
theorem dX12_proof_6 : decode cX12_proof 6 = .ok (.invokestatic 137, 3) := by decide +kernel
theorem dX12_proof_9 : decode cX12_proof 9 = .ok (.ifCond .ne 22, 3) := by decide +kernel
theorem dX12_proof_12 : decode cX12_proof 12 = .ok (.iload_n 2, 1) := by decide +kernel
theorem dX12_proof_13 : decode cX12_proof 13 = .ok (.i2l, 1) := by decide +kernel
theorem dX12_proof_14 : decode cX12_proof 14 = .ok (.lconst 0, 1) := by decide +kernel
theorem dX12_proof_15 : decode cX12_proof 15 = .ok (.ldc2_w 123, 3) := by decide +kernel
theorem dX12_proof_18 : decode cX12_proof 18 = .ok (.invokestatic 111, 3) := by decide +kernel
theorem dX12_proof_21 : decode cX12_proof 21 = .ok (.ifCond .eq 10, 3) := by decide +kernel
theorem dX12_proof_24 : decode cX12_proof 24 = .ok (.aload_n 0, 1) := by decide +kernel
theorem dX12_proof_25 : decode cX12_proof 25 = .ok (.getfield 161, 3) := by decide +kernel
theorem dX12_proof_28 : decode cX12_proof 28 = .ok (.ifCond .ne 7, 3) := by decide +kernel
theorem dX12_proof_31 : decode cX12_proof 31 = .ok (.invokestatic 104, 3) := by decide +kernel
theorem dX12_proof_34 : decode cX12_proof 34 = .ok (.lreturn, 1) := by decide +kernel
theorem dX12_proof_35 : decode cX12_proof 35 = .ok (.aload_n 0, 1) := by decide +kernel
theorem dX12_proof_36 : decode cX12_proof 36 = .ok (.iload_n 1, 1) := by decide +kernel
theorem dX12_proof_37 : decode cX12_proof 37 = .ok (.iload_n 2, 1) := by decide +kernel
theorem dX12_proof_38 : decode cX12_proof 38 = .ok (.iload_n 3, 1) := by decide +kernel
theorem dX12_proof_39 : decode cX12_proof 39 = .ok (.iload 4, 2) := by decide +kernel
theorem dX12_proof_41 : decode cX12_proof 41 = .ok (.invokevirtual 154, 3) := by decide +kernel
theorem dX12_proof_44 : decode cX12_proof 44 = .ok (.istore 5, 2) := by decide +kernel
theorem dX12_proof_46 : decode cX12_proof 46 = .ok (.iload 5, 2) := by decide +kernel
theorem dX12_proof_48 : decode cX12_proof 48 = .ok (.ifCond .le 12, 3) := by decide +kernel
theorem dX12_proof_51 : decode cX12_proof 51 = .ok (.aload_n 0, 1) := by decide +kernel
theorem dX12_proof_52 : decode cX12_proof 52 = .ok (.iload 5, 2) := by decide +kernel
theorem dX12_proof_54 : decode cX12_proof 54 = .ok (.invokevirtual 144, 3) := by decide +kernel
theorem dX12_proof_57 : decode cX12_proof 57 = .ok (.goto 11, 3) := by decide +kernel
theorem dX12_proof_60 : decode cX12_proof 60 = .ok (.aload_n 0, 1) := by decide +kernel
theorem dX12_proof_61 : decode cX12_proof 61 = .ok (.iload_n 1, 1) := by decide +kernel
theorem dX12_proof_62 : decode cX12_proof 62 = .ok (.iload_n 3, 1) := by decide +kernel
theorem dX12_proof_63 : decode cX12_proof 63 = .ok (.iload 4, 2) := by decide +kernel
theorem dX12_proof_65 : decode cX12_proof 65 = .ok (.invokevirtual 212, 3) := by decide +kernel
theorem dX12_proof_68 : decode cX12_proof 68 = .ok (.lreturn, 1) := by decide +kernel
theorem dX12_speed_0 : decode cX12_speed 0 = .ok (.iload_n 2, 1) := by decide +kernel
theorem dX12_speed_1 : decode cX12_speed 1 = .ok (.i2l, 1) := by decide +kernel
theorem dX12_speed_2 : decode cX12_speed 2 = .ok (.lconst 1, 1) := by decide +kernel
theorem dX12_speed_3 : decode cX12_speed 3 = .ok (.ldc2_w 216, 3) := by decide +kernel
theorem dX12_speed_6 : decode cX12_speed 6 = .ok (.invokestatic 111, 3) := by decide +kernel
theorem dX12_speed_9 : decode cX12_speed 9 = .ok (.ifCond .ne 6, 3) := by decide +kernel
theorem dX12_speed_12 : decode cX12_speed 12 = .ok (.bipush (-2), 2) := by decide +kernel
theorem dX12_speed_14 : decode cX12_speed 14 = .ok (.ireturn, 1) := by decide +kernel
theorem dX12_speed_15 : decode cX12_speed 15 = .ok (.aload_n 0, 1) := by decide +kernel
theorem dX12_speed_16 : decode cX12_speed 16 = .ok (.getfield 95, 3) := by decide +kernel
theorem dX12_speed_19 : decode cX12_speed 19 = .ok (.ifCond .ne 6, 3) := by decide +kernel
theorem dX12_speed_22 : decode cX12_speed 22 = .ok (.bipush (-3), 2) := by decide +kernel
theorem dX12_speed_24 : decode cX12_speed 24 = .ok (.ireturn, 1) := by decide +kernel
theorem dX12_speed_25 : decode cX12_speed 25 = .ok (.iload_n 1, 1) := by decide +kernel
theorem dX12_speed_26 : decode cX12_speed 26 = .ok (.i2l, 1) := by decide +kernel
theorem dX12_speed_27 : decode cX12_speed 27 = .ok (.lconst 0, 1) := by decide +kernel
theorem dX12_speed_28 : decode cX12_speed 28 = .ok (.aload_n 0, 1) := by decide +kernel
theorem dX12_speed_29 : decode cX12_speed 29 = .ok (.getfield 193, 3) := by decide +kernel
theorem dX12_speed_32 : decode cX12_speed 32 = .ok (.i2l, 1) := by decide +kernel
theorem dX12_speed_33 : decode cX12_speed 33 = .ok (.invokestatic 111, 3) := by decide +kernel
theorem dX12_speed_36 : decode cX12_speed 36 = .ok (.ifCond .ne 6, 3) := by decide +kernel
theorem dX12_speed_39 : decode cX12_speed 39 = .ok (.bipush (-2), 2) := by decide +kernel
theorem dX12_speed_41 : decode cX12_speed 41 = .ok (.ireturn, 1) := by decide +kernel
theorem dX12_speed_42 : decode cX12_speed 42 = .ok (.aload_n 0, 1) := by decide +kernel
theorem dX12_speed_43 : decode cX12_speed 43 = .ok (.getfield 196, 3) := by decide +kernel
theorem dX12_speed_46 : decode cX12_speed 46 = .ok (.bipush 8, 2) := by decide +kernel
theorem dX12_speed_48 : decode cX12_speed 48 = .ok (.if_icmp .ne 6, 3) := by decide +kernel
theorem dX12_speed_51 : decode cX12_speed 51 = .ok (.bipush (-4), 2) := by decide +kernel
theorem dX12_speed_53 : decode cX12_speed 53 = .ok (.ireturn, 1) := by decide +kernel
theorem dX12_speed_54 : decode cX12_speed 54 = .ok (.aload_n 0, 1) := by decide +kernel
theorem dX12_speed_55 : decode cX12_speed 55 = .ok (.getfield 62, 3) := by decide +kernel
theorem dX12_speed_58 : decode cX12_speed 58 = .ok (.aload_n 0, 1) := by decide +kernel
theorem dX12_speed_59 : decode cX12_speed 59 = .ok (.getfield 196, 3) := by decide +kernel
theorem dX12_speed_62 : decode cX12_speed 62 = .ok (.iload_n 1, 1) := by decide +kernel
theorem dX12_speed_63 : decode cX12_speed 63 = .ok (.iastore, 1) := by decide +kernel
theorem dX12_speed_64 : decode cX12_speed 64 = .ok (.aload_n 0, 1) := by decide +kernel
theorem dX12_speed_65 : decode cX12_speed 65 = .ok (.getfield 65, 3) := by decide +kernel
theorem dX12_speed_68 : decode cX12_speed 68 = .ok (.aload_n 0, 1) := by decide +kernel
theorem dX12_speed_69 : decode cX12_speed 69 = .ok (.getfield 196, 3) := by decide +kernel
theorem dX12_speed_72 : decode cX12_speed 72 = .ok (.iload_n 2, 1) := by decide +kernel
theorem dX12_speed_73 : decode cX12_speed 73 = .ok (.iastore, 1) := by decide +kernel
theorem dX12_speed_74 : decode cX12_speed 74 = .ok (.aload_n 0, 1) := by decide +kernel
theorem dX12_speed_75 : decode cX12_speed 75 = .ok (.dup, 1) := by decide +kernel
theorem dX12_speed_76 : decode cX12_speed 76 = .ok (.getfield 196, 3) := by decide +kernel
theorem dX12_speed_79 : decode cX12_speed 79 = .ok (.iconst 1, 1) := by decide +kernel
theorem dX12_speed_80 : decode cX12_speed 80 = .ok (.iadd, 1) := by decide +kernel
theorem dX12_speed_81 : decode cX12_speed 81 = .ok (.putfield 196, 3) := by decide +kernel
theorem dX12_speed_84 : decode cX12_speed 84 = .ok (.aload_n 0, 1) := by decide +kernel
theorem dX12_speed_85 : decode cX12_speed 85 = .ok (.getfield 196, 3) := by decide +kernel
theorem dX12_speed_88 : decode cX12_speed 88 = .ok (.ireturn, 1) := by decide +kernel
theorem dX12_hasDue_0 : decode cX12_hasDue 0 = .ok (.iconst 0, 1) := by decide +kernel
theorem dX12_hasDue_1 : decode cX12_hasDue 1 = .ok (.istore_n 1, 1) := by decide +kernel
theorem dX12_hasDue_2 : decode cX12_hasDue 2 = .ok (.iconst 0, 1) := by decide +kernel
theorem dX12_hasDue_3 : decode cX12_hasDue 3 = .ok (.istore_n 2, 1) := by decide +kernel
theorem dX12_hasDue_4 : decode cX12_hasDue 4 = .ok (.iload_n 2, 1) := by decide +kernel
theorem dX12_hasDue_5 : decode cX12_hasDue 5 = .ok (.aload_n 0, 1) := by decide +kernel
theorem dX12_hasDue_6 : decode cX12_hasDue 6 = .ok (.getfield 196, 3) := by decide +kernel
theorem dX12_hasDue_9 : decode cX12_hasDue 9 = .ok (.if_icmp .ge 28, 3) := by decide +kernel
theorem dX12_hasDue_12 : decode cX12_hasDue 12 = .ok (.iload_n 1, 1) := by decide +kernel
theorem dX12_hasDue_13 : decode cX12_hasDue 13 = .ok (.ifCond .ne 12, 3) := by decide +kernel
theorem dX12_hasDue_16 : decode cX12_hasDue 16 = .ok (.aload_n 0, 1) := by decide +kernel
theorem dX12_hasDue_17 : decode cX12_hasDue 17 = .ok (.getfield 62, 3) := by decide +kernel
theorem dX12_hasDue_20 : decode cX12_hasDue 20 = .ok (.iload_n 2, 1) := by decide +kernel
theorem dX12_hasDue_21 : decode cX12_hasDue 21 = .ok (.iaload, 1) := by decide +kernel
theorem dX12_hasDue_22 : decode cX12_hasDue 22 = .ok (.ifCond .ne 7, 3) := by decide +kernel
theorem dX12_hasDue_25 : decode cX12_hasDue 25 = .ok (.iconst 1, 1) := by decide +kernel
theorem dX12_hasDue_26 : decode cX12_hasDue 26 = .ok (.goto 4, 3) := by decide +kernel
theorem dX12_hasDue_29 : decode cX12_hasDue 29 = .ok (.iconst 0, 1) := by decide +kernel
theorem dX12_hasDue_30 : decode cX12_hasDue 30 = .ok (.istore_n 1, 1) := by decide +kernel
theorem dX12_hasDue_31 : decode cX12_hasDue 31 = .ok (.iinc 2 1, 3) := by decide +kernel
theorem dX12_hasDue_34 : decode cX12_hasDue 34 = .ok (.goto (-30), 3) := by decide +kernel
theorem dX12_hasDue_37 : decode cX12_hasDue 37 = .ok (.iload_n 1, 1) := by decide +kernel
theorem dX12_hasDue_38 : decode cX12_hasDue 38 = .ok (.ifCond .eq 14, 3) := by decide +kernel
theorem dX12_hasDue_41 : decode cX12_hasDue 41 = .ok (.aload_n 0, 1) := by decide +kernel
theorem dX12_hasDue_42 : decode cX12_hasDue 42 = .ok (.getfield 95, 3) := by decide +kernel
theorem dX12_hasDue_45 : decode cX12_hasDue 45 = .ok (.ifCond .le 7, 3) := by decide +kernel
theorem dX12_hasDue_48 : decode cX12_hasDue 48 = .ok (.iconst 1, 1) := by decide +kernel
theorem dX12_hasDue_49 : decode cX12_hasDue 49 = .ok (.goto 4, 3) := by decide +kernel
theorem dX12_hasDue_52 : decode cX12_hasDue 52 = .ok (.iconst 0, 1) := by decide +kernel
theorem dX12_hasDue_53 : decode cX12_hasDue 53 = .ok (.ireturn, 1) := by decide +kernel
theorem dX12_dueAt_0 : decode cX12_dueAt 0 = .ok (.lconst 0, 1) := by decide +kernel
theorem dX12_dueAt_1 : decode cX12_dueAt 1 = .ok (.lstore_n 2, 1) := by decide +kernel
theorem dX12_dueAt_2 : decode cX12_dueAt 2 = .ok (.iconst 0, 1) := by decide +kernel
theorem dX12_dueAt_3 : decode cX12_dueAt 3 = .ok (.istore 4, 2) := by decide +kernel
theorem dX12_dueAt_5 : decode cX12_dueAt 5 = .ok (.iload 4, 2) := by decide +kernel
theorem dX12_dueAt_7 : decode cX12_dueAt 7 = .ok (.iload_n 1, 1) := by decide +kernel
theorem dX12_dueAt_8 : decode cX12_dueAt 8 = .ok (.if_icmp .ge 115, 3) := by decide +kernel
theorem dX12_dueAt_11 : decode cX12_dueAt 11 = .ok (.iconst 0, 1) := by decide +kernel
theorem dX12_dueAt_12 : decode cX12_dueAt 12 = .ok (.istore 5, 2) := by decide +kernel
theorem dX12_dueAt_14 : decode cX12_dueAt 14 = .ok (.iload_n 1, 1) := by decide +kernel
theorem dX12_dueAt_15 : decode cX12_dueAt 15 = .ok (.istore 6, 2) := by decide +kernel
theorem dX12_dueAt_17 : decode cX12_dueAt 17 = .ok (.iconst 0, 1) := by decide +kernel
theorem dX12_dueAt_18 : decode cX12_dueAt 18 = .ok (.istore 7, 2) := by decide +kernel
theorem dX12_dueAt_20 : decode cX12_dueAt 20 = .ok (.iload 7, 2) := by decide +kernel
theorem dX12_dueAt_22 : decode cX12_dueAt 22 = .ok (.aload_n 0, 1) := by decide +kernel
theorem dX12_dueAt_23 : decode cX12_dueAt 23 = .ok (.getfield 196, 3) := by decide +kernel
theorem dX12_dueAt_26 : decode cX12_dueAt 26 = .ok (.if_icmp .ge 73, 3) := by decide +kernel
theorem dX12_dueAt_29 : decode cX12_dueAt 29 = .ok (.aload_n 0, 1) := by decide +kernel
theorem dX12_dueAt_30 : decode cX12_dueAt 30 = .ok (.getfield 62, 3) := by decide +kernel
theorem dX12_dueAt_33 : decode cX12_dueAt 33 = .ok (.iload 7, 2) := by decide +kernel
theorem dX12_dueAt_35 : decode cX12_dueAt 35 = .ok (.iaload, 1) := by decide +kernel
theorem dX12_dueAt_36 : decode cX12_dueAt 36 = .ok (.iload 4, 2) := by decide +kernel
theorem dX12_dueAt_38 : decode cX12_dueAt 38 = .ok (.if_icmp .ne 13, 3) := by decide +kernel
theorem dX12_dueAt_41 : decode cX12_dueAt 41 = .ok (.aload_n 0, 1) := by decide +kernel
theorem dX12_dueAt_42 : decode cX12_dueAt 42 = .ok (.getfield 65, 3) := by decide +kernel
theorem dX12_dueAt_45 : decode cX12_dueAt 45 = .ok (.iload 7, 2) := by decide +kernel
theorem dX12_dueAt_47 : decode cX12_dueAt 47 = .ok (.iaload, 1) := by decide +kernel
theorem dX12_dueAt_48 : decode cX12_dueAt 48 = .ok (.goto 5, 3) := by decide +kernel
theorem dX12_dueAt_51 : decode cX12_dueAt 51 = .ok (.iload 5, 2) := by decide +kernel
theorem dX12_dueAt_53 : decode cX12_dueAt 53 = .ok (.istore 5, 2) := by decide +kernel
theorem dX12_dueAt_55 : decode cX12_dueAt 55 = .ok (.aload_n 0, 1) := by decide +kernel
theorem dX12_dueAt_56 : decode cX12_dueAt 56 = .ok (.getfield 62, 3) := by decide +kernel
theorem dX12_dueAt_59 : decode cX12_dueAt 59 = .ok (.iload 7, 2) := by decide +kernel
theorem dX12_dueAt_61 : decode cX12_dueAt 61 = .ok (.iaload, 1) := by decide +kernel
theorem dX12_dueAt_62 : decode cX12_dueAt 62 = .ok (.iload 4, 2) := by decide +kernel
theorem dX12_dueAt_64 : decode cX12_dueAt 64 = .ok (.if_icmp .le 25, 3) := by decide +kernel
theorem dX12_dueAt_67 : decode cX12_dueAt 67 = .ok (.aload_n 0, 1) := by decide +kernel
theorem dX12_dueAt_68 : decode cX12_dueAt 68 = .ok (.getfield 62, 3) := by decide +kernel
theorem dX12_dueAt_71 : decode cX12_dueAt 71 = .ok (.iload 7, 2) := by decide +kernel
theorem dX12_dueAt_73 : decode cX12_dueAt 73 = .ok (.iaload, 1) := by decide +kernel
theorem dX12_dueAt_74 : decode cX12_dueAt 74 = .ok (.iload 6, 2) := by decide +kernel
theorem dX12_dueAt_76 : decode cX12_dueAt 76 = .ok (.if_icmp .ge 13, 3) := by decide +kernel
theorem dX12_dueAt_79 : decode cX12_dueAt 79 = .ok (.aload_n 0, 1) := by decide +kernel
theorem dX12_dueAt_80 : decode cX12_dueAt 80 = .ok (.getfield 62, 3) := by decide +kernel
theorem dX12_dueAt_83 : decode cX12_dueAt 83 = .ok (.iload 7, 2) := by decide +kernel
theorem dX12_dueAt_85 : decode cX12_dueAt 85 = .ok (.iaload, 1) := by decide +kernel
theorem dX12_dueAt_86 : decode cX12_dueAt 86 = .ok (.goto 5, 3) := by decide +kernel
theorem dX12_dueAt_89 : decode cX12_dueAt 89 = .ok (.iload 6, 2) := by decide +kernel
theorem dX12_dueAt_91 : decode cX12_dueAt 91 = .ok (.istore 6, 2) := by decide +kernel
theorem dX12_dueAt_93 : decode cX12_dueAt 93 = .ok (.iinc 7 1, 3) := by decide +kernel
theorem dX12_dueAt_96 : decode cX12_dueAt 96 = .ok (.goto (-76), 3) := by decide +kernel
theorem dX12_dueAt_99 : decode cX12_dueAt 99 = .ok (.lload_n 2, 1) := by decide +kernel
theorem dX12_dueAt_100 : decode cX12_dueAt 100 = .ok (.ldc2_w 218, 3) := by decide +kernel
theorem dX12_dueAt_103 : decode cX12_dueAt 103 = .ok (.iload 6, 2) := by decide +kernel
theorem dX12_dueAt_105 : decode cX12_dueAt 105 = .ok (.iload 4, 2) := by decide +kernel
theorem dX12_dueAt_107 : decode cX12_dueAt 107 = .ok (.isub, 1) := by decide +kernel
theorem dX12_dueAt_108 : decode cX12_dueAt 108 = .ok (.i2l, 1) := by decide +kernel
theorem dX12_dueAt_109 : decode cX12_dueAt 109 = .ok (.lmul, 1) := by decide +kernel
theorem dX12_dueAt_110 : decode cX12_dueAt 110 = .ok (.iload 5, 2) := by decide +kernel
theorem dX12_dueAt_112 : decode cX12_dueAt 112 = .ok (.i2l, 1) := by decide +kernel
theorem dX12_dueAt_113 : decode cX12_dueAt 113 = .ok (.ldiv, 1) := by decide +kernel
theorem dX12_dueAt_114 : decode cX12_dueAt 114 = .ok (.ladd, 1) := by decide +kernel
theorem dX12_dueAt_115 : decode cX12_dueAt 115 = .ok (.lstore_n 2, 1) := by decide +kernel
theorem dX12_dueAt_116 : decode cX12_dueAt 116 = .ok (.iload 6, 2) := by decide +kernel
theorem dX12_dueAt_118 : decode cX12_dueAt 118 = .ok (.istore 4, 2) := by decide +kernel
theorem dX12_dueAt_120 : decode cX12_dueAt 120 = .ok (.goto (-115), 3) := by decide +kernel
theorem dX12_dueAt_123 : decode cX12_dueAt 123 = .ok (.lload_n 2, 1) := by decide +kernel
theorem dX12_dueAt_124 : decode cX12_dueAt 124 = .ok (.lreturn, 1) := by decide +kernel
theorem dX12_due_0 : decode cX12_due 0 = .ok (.aload_n 0, 1) := by decide +kernel
theorem dX12_due_1 : decode cX12_due 1 = .ok (.invokevirtual 220, 3) := by decide +kernel
theorem dX12_due_4 : decode cX12_due 4 = .ok (.ifCond .eq 25, 3) := by decide +kernel
theorem dX12_due_7 : decode cX12_due 7 = .ok (.iload_n 1, 1) := by decide +kernel
theorem dX12_due_8 : decode cX12_due 8 = .ok (.i2l, 1) := by decide +kernel
theorem dX12_due_9 : decode cX12_due 9 = .ok (.lconst 0, 1) := by decide +kernel
theorem dX12_due_10 : decode cX12_due 10 = .ok (.aload_n 0, 1) := by decide +kernel
theorem dX12_due_11 : decode cX12_due 11 = .ok (.getfield 193, 3) := by decide +kernel
theorem dX12_due_14 : decode cX12_due 14 = .ok (.i2l, 1) := by decide +kernel
theorem dX12_due_15 : decode cX12_due 15 = .ok (.invokestatic 111, 3) := by decide +kernel
theorem dX12_due_18 : decode cX12_due 18 = .ok (.ifCond .eq 11, 3) := by decide +kernel
theorem dX12_due_21 : decode cX12_due 21 = .ok (.aload_n 0, 1) := by decide +kernel
theorem dX12_due_22 : decode cX12_due 22 = .ok (.iload_n 1, 1) := by decide +kernel
theorem dX12_due_23 : decode cX12_due 23 = .ok (.invokevirtual 223, 3) := by decide +kernel
theorem dX12_due_26 : decode cX12_due 26 = .ok (.goto 6, 3) := by decide +kernel
theorem dX12_due_29 : decode cX12_due 29 = .ok (.invokestatic 104, 3) := by decide +kernel
theorem dX12_due_32 : decode cX12_due 32 = .ok (.lreturn, 1) := by decide +kernel
theorem dX12_roadAt_0 : decode cX12_roadAt 0 = .ok (.aload_n 0, 1) := by decide +kernel
theorem dX12_roadAt_1 : decode cX12_roadAt 1 = .ok (.getfield 95, 3) := by decide +kernel
theorem dX12_roadAt_4 : decode cX12_roadAt 4 = .ok (.ifCond .ne 6, 3) := by decide +kernel
theorem dX12_roadAt_7 : decode cX12_roadAt 7 = .ok (.bipush (-3), 2) := by decide +kernel
theorem dX12_roadAt_9 : decode cX12_roadAt 9 = .ok (.ireturn, 1) := by decide +kernel
theorem dX12_roadAt_10 : decode cX12_roadAt 10 = .ok (.iload_n 1, 1) := by decide +kernel
theorem dX12_roadAt_11 : decode cX12_roadAt 11 = .ok (.i2l, 1) := by decide +kernel
theorem dX12_roadAt_12 : decode cX12_roadAt 12 = .ok (.lconst 0, 1) := by decide +kernel
theorem dX12_roadAt_13 : decode cX12_roadAt 13 = .ok (.aload_n 0, 1) := by decide +kernel
theorem dX12_roadAt_14 : decode cX12_roadAt 14 = .ok (.getfield 193, 3) := by decide +kernel
theorem dX12_roadAt_17 : decode cX12_roadAt 17 = .ok (.i2l, 1) := by decide +kernel
theorem dX12_roadAt_18 : decode cX12_roadAt 18 = .ok (.invokestatic 111, 3) := by decide +kernel
theorem dX12_roadAt_21 : decode cX12_roadAt 21 = .ok (.ifCond .ne 6, 3) := by decide +kernel
theorem dX12_roadAt_24 : decode cX12_roadAt 24 = .ok (.bipush (-2), 2) := by decide +kernel
theorem dX12_roadAt_26 : decode cX12_roadAt 26 = .ok (.ireturn, 1) := by decide +kernel
theorem dX12_roadAt_27 : decode cX12_roadAt 27 = .ok (.iconst 0, 1) := by decide +kernel
theorem dX12_roadAt_28 : decode cX12_roadAt 28 = .ok (.istore_n 2, 1) := by decide +kernel
theorem dX12_roadAt_29 : decode cX12_roadAt 29 = .ok (.iconst 0, 1) := by decide +kernel
theorem dX12_roadAt_30 : decode cX12_roadAt 30 = .ok (.istore_n 3, 1) := by decide +kernel
theorem dX12_roadAt_31 : decode cX12_roadAt 31 = .ok (.iload_n 3, 1) := by decide +kernel
theorem dX12_roadAt_32 : decode cX12_roadAt 32 = .ok (.aload_n 0, 1) := by decide +kernel
theorem dX12_roadAt_33 : decode cX12_roadAt 33 = .ok (.getfield 95, 3) := by decide +kernel
theorem dX12_roadAt_36 : decode cX12_roadAt 36 = .ok (.if_icmp .ge 35, 3) := by decide +kernel
theorem dX12_roadAt_39 : decode cX12_roadAt 39 = .ok (.iload_n 2, 1) := by decide +kernel
theorem dX12_roadAt_40 : decode cX12_roadAt 40 = .ok (.aload_n 0, 1) := by decide +kernel
theorem dX12_roadAt_41 : decode cX12_roadAt 41 = .ok (.getfield 16, 3) := by decide +kernel
theorem dX12_roadAt_44 : decode cX12_roadAt 44 = .ok (.aload_n 0, 1) := by decide +kernel
theorem dX12_roadAt_45 : decode cX12_roadAt 45 = .ok (.getfield 59, 3) := by decide +kernel
theorem dX12_roadAt_48 : decode cX12_roadAt 48 = .ok (.iload_n 3, 1) := by decide +kernel
theorem dX12_roadAt_49 : decode cX12_roadAt 49 = .ok (.iaload, 1) := by decide +kernel
theorem dX12_roadAt_50 : decode cX12_roadAt 50 = .ok (.iaload, 1) := by decide +kernel
theorem dX12_roadAt_51 : decode cX12_roadAt 51 = .ok (.iadd, 1) := by decide +kernel
theorem dX12_roadAt_52 : decode cX12_roadAt 52 = .ok (.istore_n 2, 1) := by decide +kernel
theorem dX12_roadAt_53 : decode cX12_roadAt 53 = .ok (.iload_n 1, 1) := by decide +kernel
theorem dX12_roadAt_54 : decode cX12_roadAt 54 = .ok (.iload_n 2, 1) := by decide +kernel
theorem dX12_roadAt_55 : decode cX12_roadAt 55 = .ok (.if_icmp .ge 10, 3) := by decide +kernel
theorem dX12_roadAt_58 : decode cX12_roadAt 58 = .ok (.aload_n 0, 1) := by decide +kernel
theorem dX12_roadAt_59 : decode cX12_roadAt 59 = .ok (.getfield 59, 3) := by decide +kernel
theorem dX12_roadAt_62 : decode cX12_roadAt 62 = .ok (.iload_n 3, 1) := by decide +kernel
theorem dX12_roadAt_63 : decode cX12_roadAt 63 = .ok (.iaload, 1) := by decide +kernel
theorem dX12_roadAt_64 : decode cX12_roadAt 64 = .ok (.ireturn, 1) := by decide +kernel
theorem dX12_roadAt_65 : decode cX12_roadAt 65 = .ok (.iinc 3 1, 3) := by decide +kernel
theorem dX12_roadAt_68 : decode cX12_roadAt 68 = .ok (.goto (-37), 3) := by decide +kernel
theorem dX12_roadAt_71 : decode cX12_roadAt 71 = .ok (.aload_n 0, 1) := by decide +kernel
theorem dX12_roadAt_72 : decode cX12_roadAt 72 = .ok (.getfield 59, 3) := by decide +kernel
theorem dX12_roadAt_75 : decode cX12_roadAt 75 = .ok (.aload_n 0, 1) := by decide +kernel
theorem dX12_roadAt_76 : decode cX12_roadAt 76 = .ok (.getfield 95, 3) := by decide +kernel
theorem dX12_roadAt_79 : decode cX12_roadAt 79 = .ok (.iconst 1, 1) := by decide +kernel
theorem dX12_roadAt_80 : decode cX12_roadAt 80 = .ok (.isub, 1) := by decide +kernel
theorem dX12_roadAt_81 : decode cX12_roadAt 81 = .ok (.iaload, 1) := by decide +kernel
theorem dX12_roadAt_82 : decode cX12_roadAt 82 = .ok (.ireturn, 1) := by decide +kernel
theorem dX12_noControl_0 : decode cX12_noControl 0 = .ok (.iload_n 1, 1) := by decide +kernel
theorem dX12_noControl_1 : decode cX12_noControl 1 = .ok (.i2l, 1) := by decide +kernel
theorem dX12_noControl_2 : decode cX12_noControl 2 = .ok (.lconst 0, 1) := by decide +kernel
theorem dX12_noControl_3 : decode cX12_noControl 3 = .ok (.aload_n 0, 1) := by decide +kernel
theorem dX12_noControl_4 : decode cX12_noControl 4 = .ok (.getfield 199, 3) := by decide +kernel
theorem dX12_noControl_7 : decode cX12_noControl 7 = .ok (.i2l, 1) := by decide +kernel
theorem dX12_noControl_8 : decode cX12_noControl 8 = .ok (.lconst 1, 1) := by decide +kernel
theorem dX12_noControl_9 : decode cX12_noControl 9 = .ok (.lsub, 1) := by decide +kernel
theorem dX12_noControl_10 : decode cX12_noControl 10 = .ok (.invokestatic 111, 3) := by decide +kernel
theorem dX12_noControl_13 : decode cX12_noControl 13 = .ok (.ifCond .ne 7, 3) := by decide +kernel
theorem dX12_noControl_16 : decode cX12_noControl 16 = .ok (.iconst 1, 1) := by decide +kernel
theorem dX12_noControl_17 : decode cX12_noControl 17 = .ok (.goto 4, 3) := by decide +kernel
theorem dX12_noControl_20 : decode cX12_noControl 20 = .ok (.iconst 0, 1) := by decide +kernel
theorem dX12_noControl_21 : decode cX12_noControl 21 = .ok (.ireturn, 1) := by decide +kernel
theorem dX12_control_0 : decode cX12_control 0 = .ok (.aload_n 0, 1) := by decide +kernel
theorem dX12_control_1 : decode cX12_control 1 = .ok (.getfield 95, 3) := by decide +kernel
theorem dX12_control_4 : decode cX12_control 4 = .ok (.ifCond .ne 6, 3) := by decide +kernel
theorem dX12_control_7 : decode cX12_control 7 = .ok (.bipush (-3), 2) := by decide +kernel
theorem dX12_control_9 : decode cX12_control 9 = .ok (.ireturn, 1) := by decide +kernel
theorem dX12_control_10 : decode cX12_control 10 = .ok (.iload_n 1, 1) := by decide +kernel
theorem dX12_control_11 : decode cX12_control 11 = .ok (.i2l, 1) := by decide +kernel
theorem dX12_control_12 : decode cX12_control 12 = .ok (.lconst 1, 1) := by decide +kernel
theorem dX12_control_13 : decode cX12_control 13 = .ok (.aload_n 0, 1) := by decide +kernel
theorem dX12_control_14 : decode cX12_control 14 = .ok (.getfield 193, 3) := by decide +kernel
theorem dX12_control_17 : decode cX12_control 17 = .ok (.i2l, 1) := by decide +kernel
theorem dX12_control_18 : decode cX12_control 18 = .ok (.invokestatic 111, 3) := by decide +kernel
theorem dX12_control_21 : decode cX12_control 21 = .ok (.ifCond .ne 6, 3) := by decide +kernel
theorem dX12_control_24 : decode cX12_control 24 = .ok (.bipush (-2), 2) := by decide +kernel
theorem dX12_control_26 : decode cX12_control 26 = .ok (.ireturn, 1) := by decide +kernel
theorem dX12_control_27 : decode cX12_control 27 = .ok (.iconst 0, 1) := by decide +kernel
theorem dX12_control_28 : decode cX12_control 28 = .ok (.istore_n 2, 1) := by decide +kernel
theorem dX12_control_29 : decode cX12_control 29 = .ok (.iload_n 2, 1) := by decide +kernel
theorem dX12_control_30 : decode cX12_control 30 = .ok (.aload_n 0, 1) := by decide +kernel
theorem dX12_control_31 : decode cX12_control 31 = .ok (.getfield 199, 3) := by decide +kernel
theorem dX12_control_34 : decode cX12_control 34 = .ok (.if_icmp .ge 22, 3) := by decide +kernel
theorem dX12_control_37 : decode cX12_control 37 = .ok (.aload_n 0, 1) := by decide +kernel
theorem dX12_control_38 : decode cX12_control 38 = .ok (.getfield 68, 3) := by decide +kernel
theorem dX12_control_41 : decode cX12_control 41 = .ok (.iload_n 2, 1) := by decide +kernel
theorem dX12_control_42 : decode cX12_control 42 = .ok (.iaload, 1) := by decide +kernel
theorem dX12_control_43 : decode cX12_control 43 = .ok (.iload_n 1, 1) := by decide +kernel
theorem dX12_control_44 : decode cX12_control 44 = .ok (.if_icmp .ne 6, 3) := by decide +kernel
theorem dX12_control_47 : decode cX12_control 47 = .ok (.bipush (-3), 2) := by decide +kernel
theorem dX12_control_49 : decode cX12_control 49 = .ok (.ireturn, 1) := by decide +kernel
theorem dX12_control_50 : decode cX12_control 50 = .ok (.iinc 2 1, 3) := by decide +kernel
theorem dX12_control_53 : decode cX12_control 53 = .ok (.goto (-24), 3) := by decide +kernel
theorem dX12_control_56 : decode cX12_control 56 = .ok (.aload_n 0, 1) := by decide +kernel
theorem dX12_control_57 : decode cX12_control 57 = .ok (.getfield 199, 3) := by decide +kernel
theorem dX12_control_60 : decode cX12_control 60 = .ok (.bipush 8, 2) := by decide +kernel
theorem dX12_control_62 : decode cX12_control 62 = .ok (.if_icmp .ne 6, 3) := by decide +kernel
theorem dX12_control_65 : decode cX12_control 65 = .ok (.bipush (-4), 2) := by decide +kernel
theorem dX12_control_67 : decode cX12_control 67 = .ok (.ireturn, 1) := by decide +kernel
theorem dX12_control_68 : decode cX12_control 68 = .ok (.aload_n 0, 1) := by decide +kernel
theorem dX12_control_69 : decode cX12_control 69 = .ok (.getfield 68, 3) := by decide +kernel
theorem dX12_control_72 : decode cX12_control 72 = .ok (.aload_n 0, 1) := by decide +kernel
theorem dX12_control_73 : decode cX12_control 73 = .ok (.getfield 199, 3) := by decide +kernel
theorem dX12_control_76 : decode cX12_control 76 = .ok (.iload_n 1, 1) := by decide +kernel
theorem dX12_control_77 : decode cX12_control 77 = .ok (.iastore, 1) := by decide +kernel
theorem dX12_control_78 : decode cX12_control 78 = .ok (.aload_n 0, 1) := by decide +kernel
theorem dX12_control_79 : decode cX12_control 79 = .ok (.getfield 71, 3) := by decide +kernel
theorem dX12_control_82 : decode cX12_control 82 = .ok (.aload_n 0, 1) := by decide +kernel
theorem dX12_control_83 : decode cX12_control 83 = .ok (.getfield 199, 3) := by decide +kernel
theorem dX12_control_86 : decode cX12_control 86 = .ok (.iconst 0, 1) := by decide +kernel
theorem dX12_control_87 : decode cX12_control 87 = .ok (.bastore, 1) := by decide +kernel
theorem dX12_control_88 : decode cX12_control 88 = .ok (.aload_n 0, 1) := by decide +kernel
theorem dX12_control_89 : decode cX12_control 89 = .ok (.getfield 74, 3) := by decide +kernel
theorem dX12_control_92 : decode cX12_control 92 = .ok (.aload_n 0, 1) := by decide +kernel
theorem dX12_control_93 : decode cX12_control 93 = .ok (.getfield 199, 3) := by decide +kernel
theorem dX12_control_96 : decode cX12_control 96 = .ok (.iconst 0, 1) := by decide +kernel
theorem dX12_control_97 : decode cX12_control 97 = .ok (.bastore, 1) := by decide +kernel
theorem dX12_control_98 : decode cX12_control 98 = .ok (.aload_n 0, 1) := by decide +kernel
theorem dX12_control_99 : decode cX12_control 99 = .ok (.dup, 1) := by decide +kernel
theorem dX12_control_100 : decode cX12_control 100 = .ok (.getfield 199, 3) := by decide +kernel
theorem dX12_control_103 : decode cX12_control 103 = .ok (.iconst 1, 1) := by decide +kernel
theorem dX12_control_104 : decode cX12_control 104 = .ok (.iadd, 1) := by decide +kernel
theorem dX12_control_105 : decode cX12_control 105 = .ok (.putfield 199, 3) := by decide +kernel
theorem dX12_control_108 : decode cX12_control 108 = .ok (.aload_n 0, 1) := by decide +kernel
theorem dX12_control_109 : decode cX12_control 109 = .ok (.getfield 199, 3) := by decide +kernel
theorem dX12_control_112 : decode cX12_control 112 = .ok (.iconst 1, 1) := by decide +kernel
theorem dX12_control_113 : decode cX12_control 113 = .ok (.isub, 1) := by decide +kernel
theorem dX12_control_114 : decode cX12_control 114 = .ok (.ireturn, 1) := by decide +kernel
theorem dX12_isTime_0 : decode cX12_isTime 0 = .ok (.iload_n 0, 1) := by decide +kernel
theorem dX12_isTime_1 : decode cX12_isTime 1 = .ok (.i2l, 1) := by decide +kernel
theorem dX12_isTime_2 : decode cX12_isTime 2 = .ok (.lconst 0, 1) := by decide +kernel
theorem dX12_isTime_3 : decode cX12_isTime 3 = .ok (.ldc2_w 226, 3) := by decide +kernel
theorem dX12_isTime_6 : decode cX12_isTime 6 = .ok (.invokestatic 111, 3) := by decide +kernel
theorem dX12_isTime_9 : decode cX12_isTime 9 = .ok (.ireturn, 1) := by decide +kernel
theorem dX12_watch_0 : decode cX12_watch 0 = .ok (.aload_n 0, 1) := by decide +kernel
theorem dX12_watch_1 : decode cX12_watch 1 = .ok (.iload_n 1, 1) := by decide +kernel
theorem dX12_watch_2 : decode cX12_watch 2 = .ok (.invokevirtual 228, 3) := by decide +kernel
theorem dX12_watch_5 : decode cX12_watch 5 = .ok (.ifCond .eq 5, 3) := by decide +kernel
theorem dX12_watch_8 : decode cX12_watch 8 = .ok (.iconst (-1), 1) := by decide +kernel
theorem dX12_watch_9 : decode cX12_watch 9 = .ok (.ireturn, 1) := by decide +kernel
theorem dX12_watch_10 : decode cX12_watch 10 = .ok (.iload_n 2, 1) := by decide +kernel
theorem dX12_watch_11 : decode cX12_watch 11 = .ok (.invokestatic 231, 3) := by decide +kernel
theorem dX12_watch_14 : decode cX12_watch 14 = .ok (.ifCond .eq 38, 3) := by decide +kernel
theorem dX12_watch_17 : decode cX12_watch 17 = .ok (.iload_n 3, 1) := by decide +kernel
theorem dX12_watch_18 : decode cX12_watch 18 = .ok (.invokestatic 231, 3) := by decide +kernel
theorem dX12_watch_21 : decode cX12_watch 21 = .ok (.ifCond .eq 31, 3) := by decide +kernel
theorem dX12_watch_24 : decode cX12_watch 24 = .ok (.iload 4, 2) := by decide +kernel
theorem dX12_watch_26 : decode cX12_watch 26 = .ok (.invokestatic 231, 3) := by decide +kernel
theorem dX12_watch_29 : decode cX12_watch 29 = .ok (.ifCond .eq 23, 3) := by decide +kernel
theorem dX12_watch_32 : decode cX12_watch 32 = .ok (.iload 5, 2) := by decide +kernel
theorem dX12_watch_34 : decode cX12_watch 34 = .ok (.invokestatic 231, 3) := by decide +kernel
theorem dX12_watch_37 : decode cX12_watch 37 = .ok (.ifCond .eq 15, 3) := by decide +kernel
theorem dX12_watch_40 : decode cX12_watch 40 = .ok (.iload_n 2, 1) := by decide +kernel
theorem dX12_watch_41 : decode cX12_watch 41 = .ok (.iload_n 3, 1) := by decide +kernel
theorem dX12_watch_42 : decode cX12_watch 42 = .ok (.if_icmp .ge 10, 3) := by decide +kernel
theorem dX12_watch_45 : decode cX12_watch 45 = .ok (.iload 4, 2) := by decide +kernel
theorem dX12_watch_47 : decode cX12_watch 47 = .ok (.iload 5, 2) := by decide +kernel
theorem dX12_watch_49 : decode cX12_watch 49 = .ok (.if_icmp .lt 6, 3) := by decide +kernel
theorem dX12_watch_52 : decode cX12_watch 52 = .ok (.bipush (-2), 2) := by decide +kernel
theorem dX12_watch_54 : decode cX12_watch 54 = .ok (.ireturn, 1) := by decide +kernel
theorem dX12_watch_55 : decode cX12_watch 55 = .ok (.aload_n 0, 1) := by decide +kernel
theorem dX12_watch_56 : decode cX12_watch 56 = .ok (.getfield 74, 3) := by decide +kernel
theorem dX12_watch_59 : decode cX12_watch 59 = .ok (.iload_n 1, 1) := by decide +kernel
theorem dX12_watch_60 : decode cX12_watch 60 = .ok (.iconst 1, 1) := by decide +kernel
theorem dX12_watch_61 : decode cX12_watch 61 = .ok (.bastore, 1) := by decide +kernel
theorem dX12_watch_62 : decode cX12_watch 62 = .ok (.aload_n 0, 1) := by decide +kernel
theorem dX12_watch_63 : decode cX12_watch 63 = .ok (.getfield 77, 3) := by decide +kernel
theorem dX12_watch_66 : decode cX12_watch 66 = .ok (.iconst 4, 1) := by decide +kernel
theorem dX12_watch_67 : decode cX12_watch 67 = .ok (.iload_n 1, 1) := by decide +kernel
theorem dX12_watch_68 : decode cX12_watch 68 = .ok (.imul, 1) := by decide +kernel
theorem dX12_watch_69 : decode cX12_watch 69 = .ok (.iload_n 2, 1) := by decide +kernel
theorem dX12_watch_70 : decode cX12_watch 70 = .ok (.iastore, 1) := by decide +kernel
theorem dX12_watch_71 : decode cX12_watch 71 = .ok (.aload_n 0, 1) := by decide +kernel
theorem dX12_watch_72 : decode cX12_watch 72 = .ok (.getfield 77, 3) := by decide +kernel
theorem dX12_watch_75 : decode cX12_watch 75 = .ok (.iconst 4, 1) := by decide +kernel
theorem dX12_watch_76 : decode cX12_watch 76 = .ok (.iload_n 1, 1) := by decide +kernel
theorem dX12_watch_77 : decode cX12_watch 77 = .ok (.imul, 1) := by decide +kernel
theorem dX12_watch_78 : decode cX12_watch 78 = .ok (.iconst 1, 1) := by decide +kernel
theorem dX12_watch_79 : decode cX12_watch 79 = .ok (.iadd, 1) := by decide +kernel
theorem dX12_watch_80 : decode cX12_watch 80 = .ok (.iload_n 3, 1) := by decide +kernel
theorem dX12_watch_81 : decode cX12_watch 81 = .ok (.iastore, 1) := by decide +kernel
theorem dX12_watch_82 : decode cX12_watch 82 = .ok (.aload_n 0, 1) := by decide +kernel
theorem dX12_watch_83 : decode cX12_watch 83 = .ok (.getfield 77, 3) := by decide +kernel
theorem dX12_watch_86 : decode cX12_watch 86 = .ok (.iconst 4, 1) := by decide +kernel
theorem dX12_watch_87 : decode cX12_watch 87 = .ok (.iload_n 1, 1) := by decide +kernel
theorem dX12_watch_88 : decode cX12_watch 88 = .ok (.imul, 1) := by decide +kernel
theorem dX12_watch_89 : decode cX12_watch 89 = .ok (.iconst 2, 1) := by decide +kernel
theorem dX12_watch_90 : decode cX12_watch 90 = .ok (.iadd, 1) := by decide +kernel
theorem dX12_watch_91 : decode cX12_watch 91 = .ok (.iload 4, 2) := by decide +kernel
theorem dX12_watch_93 : decode cX12_watch 93 = .ok (.iastore, 1) := by decide +kernel
theorem dX12_watch_94 : decode cX12_watch 94 = .ok (.aload_n 0, 1) := by decide +kernel
theorem dX12_watch_95 : decode cX12_watch 95 = .ok (.getfield 77, 3) := by decide +kernel
theorem dX12_watch_98 : decode cX12_watch 98 = .ok (.iconst 4, 1) := by decide +kernel
theorem dX12_watch_99 : decode cX12_watch 99 = .ok (.iload_n 1, 1) := by decide +kernel
theorem dX12_watch_100 : decode cX12_watch 100 = .ok (.imul, 1) := by decide +kernel
theorem dX12_watch_101 : decode cX12_watch 101 = .ok (.iconst 3, 1) := by decide +kernel
theorem dX12_watch_102 : decode cX12_watch 102 = .ok (.iadd, 1) := by decide +kernel
theorem dX12_watch_103 : decode cX12_watch 103 = .ok (.iload 5, 2) := by decide +kernel
theorem dX12_watch_105 : decode cX12_watch 105 = .ok (.iastore, 1) := by decide +kernel
theorem dX12_watch_106 : decode cX12_watch 106 = .ok (.iconst 1, 1) := by decide +kernel
theorem dX12_watch_107 : decode cX12_watch 107 = .ok (.ireturn, 1) := by decide +kernel
theorem dX12_rightAt_0 : decode cX12_rightAt 0 = .ok (.aload_n 0, 1) := by decide +kernel
theorem dX12_rightAt_1 : decode cX12_rightAt 1 = .ok (.getfield 74, 3) := by decide +kernel
theorem dX12_rightAt_4 : decode cX12_rightAt 4 = .ok (.iload_n 1, 1) := by decide +kernel
theorem dX12_rightAt_5 : decode cX12_rightAt 5 = .ok (.baload, 1) := by decide +kernel
theorem dX12_rightAt_6 : decode cX12_rightAt 6 = .ok (.ifCond .ne 5, 3) := by decide +kernel
theorem dX12_rightAt_9 : decode cX12_rightAt 9 = .ok (.lload_n 2, 1) := by decide +kernel
theorem dX12_rightAt_10 : decode cX12_rightAt 10 = .ok (.lreturn, 1) := by decide +kernel
theorem dX12_rightAt_11 : decode cX12_rightAt 11 = .ok (.aload_n 0, 1) := by decide +kernel
theorem dX12_rightAt_12 : decode cX12_rightAt 12 = .ok (.getfield 77, 3) := by decide +kernel
theorem dX12_rightAt_15 : decode cX12_rightAt 15 = .ok (.iconst 4, 1) := by decide +kernel
theorem dX12_rightAt_16 : decode cX12_rightAt 16 = .ok (.iload_n 1, 1) := by decide +kernel
theorem dX12_rightAt_17 : decode cX12_rightAt 17 = .ok (.imul, 1) := by decide +kernel
theorem dX12_rightAt_18 : decode cX12_rightAt 18 = .ok (.iaload, 1) := by decide +kernel
theorem dX12_rightAt_19 : decode cX12_rightAt 19 = .ok (.i2l, 1) := by decide +kernel
theorem dX12_rightAt_20 : decode cX12_rightAt 20 = .ok (.lstore 4, 2) := by decide +kernel
theorem dX12_rightAt_22 : decode cX12_rightAt 22 = .ok (.aload_n 0, 1) := by decide +kernel
theorem dX12_rightAt_23 : decode cX12_rightAt 23 = .ok (.getfield 77, 3) := by decide +kernel
theorem dX12_rightAt_26 : decode cX12_rightAt 26 = .ok (.iconst 4, 1) := by decide +kernel
theorem dX12_rightAt_27 : decode cX12_rightAt 27 = .ok (.iload_n 1, 1) := by decide +kernel
theorem dX12_rightAt_28 : decode cX12_rightAt 28 = .ok (.imul, 1) := by decide +kernel
theorem dX12_rightAt_29 : decode cX12_rightAt 29 = .ok (.iconst 2, 1) := by decide +kernel
theorem dX12_rightAt_30 : decode cX12_rightAt 30 = .ok (.iadd, 1) := by decide +kernel
theorem dX12_rightAt_31 : decode cX12_rightAt 31 = .ok (.iaload, 1) := by decide +kernel
theorem dX12_rightAt_32 : decode cX12_rightAt 32 = .ok (.i2l, 1) := by decide +kernel
theorem dX12_rightAt_33 : decode cX12_rightAt 33 = .ok (.lstore 6, 2) := by decide +kernel
theorem dX12_rightAt_35 : decode cX12_rightAt 35 = .ok (.lload 4, 2) := by decide +kernel
theorem dX12_rightAt_37 : decode cX12_rightAt 37 = .ok (.lload_n 2, 1) := by decide +kernel
theorem dX12_rightAt_38 : decode cX12_rightAt 38 = .ok (.lload 6, 2) := by decide +kernel
theorem dX12_rightAt_40 : decode cX12_rightAt 40 = .ok (.lsub, 1) := by decide +kernel
theorem dX12_rightAt_41 : decode cX12_rightAt 41 = .ok (.aload_n 0, 1) := by decide +kernel
theorem dX12_rightAt_42 : decode cX12_rightAt 42 = .ok (.getfield 77, 3) := by decide +kernel
theorem dX12_rightAt_45 : decode cX12_rightAt 45 = .ok (.iconst 4, 1) := by decide +kernel
theorem dX12_rightAt_46 : decode cX12_rightAt 46 = .ok (.iload_n 1, 1) := by decide +kernel
theorem dX12_rightAt_47 : decode cX12_rightAt 47 = .ok (.imul, 1) := by decide +kernel
theorem dX12_rightAt_48 : decode cX12_rightAt 48 = .ok (.iconst 1, 1) := by decide +kernel
theorem dX12_rightAt_49 : decode cX12_rightAt 49 = .ok (.iadd, 1) := by decide +kernel
theorem dX12_rightAt_50 : decode cX12_rightAt 50 = .ok (.iaload, 1) := by decide +kernel
theorem dX12_rightAt_51 : decode cX12_rightAt 51 = .ok (.i2l, 1) := by decide +kernel
theorem dX12_rightAt_52 : decode cX12_rightAt 52 = .ok (.lload 4, 2) := by decide +kernel
theorem dX12_rightAt_54 : decode cX12_rightAt 54 = .ok (.lsub, 1) := by decide +kernel
theorem dX12_rightAt_55 : decode cX12_rightAt 55 = .ok (.lmul, 1) := by decide +kernel
theorem dX12_rightAt_56 : decode cX12_rightAt 56 = .ok (.aload_n 0, 1) := by decide +kernel
theorem dX12_rightAt_57 : decode cX12_rightAt 57 = .ok (.getfield 77, 3) := by decide +kernel
theorem dX12_rightAt_60 : decode cX12_rightAt 60 = .ok (.iconst 4, 1) := by decide +kernel
theorem dX12_rightAt_61 : decode cX12_rightAt 61 = .ok (.iload_n 1, 1) := by decide +kernel
theorem dX12_rightAt_62 : decode cX12_rightAt 62 = .ok (.imul, 1) := by decide +kernel
theorem dX12_rightAt_63 : decode cX12_rightAt 63 = .ok (.iconst 3, 1) := by decide +kernel
theorem dX12_rightAt_64 : decode cX12_rightAt 64 = .ok (.iadd, 1) := by decide +kernel
theorem dX12_rightAt_65 : decode cX12_rightAt 65 = .ok (.iaload, 1) := by decide +kernel
theorem dX12_rightAt_66 : decode cX12_rightAt 66 = .ok (.i2l, 1) := by decide +kernel
theorem dX12_rightAt_67 : decode cX12_rightAt 67 = .ok (.lload 6, 2) := by decide +kernel
theorem dX12_rightAt_69 : decode cX12_rightAt 69 = .ok (.lsub, 1) := by decide +kernel
theorem dX12_rightAt_70 : decode cX12_rightAt 70 = .ok (.ldiv, 1) := by decide +kernel
theorem dX12_rightAt_71 : decode cX12_rightAt 71 = .ok (.ladd, 1) := by decide +kernel
theorem dX12_rightAt_72 : decode cX12_rightAt 72 = .ok (.lreturn, 1) := by decide +kernel
theorem dX12_right_0 : decode cX12_right 0 = .ok (.aload_n 0, 1) := by decide +kernel
theorem dX12_right_1 : decode cX12_right 1 = .ok (.iload_n 1, 1) := by decide +kernel
theorem dX12_right_2 : decode cX12_right 2 = .ok (.invokevirtual 228, 3) := by decide +kernel
theorem dX12_right_5 : decode cX12_right 5 = .ok (.ifCond .ne 10, 3) := by decide +kernel
theorem dX12_right_8 : decode cX12_right 8 = .ok (.iload_n 2, 1) := by decide +kernel
theorem dX12_right_9 : decode cX12_right 9 = .ok (.invokestatic 231, 3) := by decide +kernel
theorem dX12_right_12 : decode cX12_right 12 = .ok (.ifCond .ne 9, 3) := by decide +kernel
theorem dX12_right_15 : decode cX12_right 15 = .ok (.invokestatic 104, 3) := by decide +kernel
theorem dX12_right_18 : decode cX12_right 18 = .ok (.goto 10, 3) := by decide +kernel
theorem dX12_right_21 : decode cX12_right 21 = .ok (.aload_n 0, 1) := by decide +kernel
theorem dX12_right_22 : decode cX12_right 22 = .ok (.iload_n 1, 1) := by decide +kernel
theorem dX12_right_23 : decode cX12_right 23 = .ok (.iload_n 2, 1) := by decide +kernel
theorem dX12_right_24 : decode cX12_right 24 = .ok (.i2l, 1) := by decide +kernel
theorem dX12_right_25 : decode cX12_right 25 = .ok (.invokevirtual 234, 3) := by decide +kernel
theorem dX12_right_28 : decode cX12_right 28 = .ok (.lreturn, 1) := by decide +kernel
theorem dX12_strike_0 : decode cX12_strike 0 = .ok (.aload_n 0, 1) := by decide +kernel
theorem dX12_strike_1 : decode cX12_strike 1 = .ok (.iload_n 1, 1) := by decide +kernel
theorem dX12_strike_2 : decode cX12_strike 2 = .ok (.invokevirtual 228, 3) := by decide +kernel
theorem dX12_strike_5 : decode cX12_strike 5 = .ok (.ifCond .eq 5, 3) := by decide +kernel
theorem dX12_strike_8 : decode cX12_strike 8 = .ok (.iconst (-1), 1) := by decide +kernel
theorem dX12_strike_9 : decode cX12_strike 9 = .ok (.ireturn, 1) := by decide +kernel
theorem dX12_strike_10 : decode cX12_strike 10 = .ok (.aload_n 0, 1) := by decide +kernel
theorem dX12_strike_11 : decode cX12_strike 11 = .ok (.getfield 71, 3) := by decide +kernel
theorem dX12_strike_14 : decode cX12_strike 14 = .ok (.iload_n 1, 1) := by decide +kernel
theorem dX12_strike_15 : decode cX12_strike 15 = .ok (.baload, 1) := by decide +kernel
theorem dX12_strike_16 : decode cX12_strike 16 = .ok (.iload_n 2, 1) := by decide +kernel
theorem dX12_strike_17 : decode cX12_strike 17 = .ok (.if_icmp .eq 7, 3) := by decide +kernel
theorem dX12_strike_20 : decode cX12_strike 20 = .ok (.iconst 1, 1) := by decide +kernel
theorem dX12_strike_21 : decode cX12_strike 21 = .ok (.goto 4, 3) := by decide +kernel
theorem dX12_strike_24 : decode cX12_strike 24 = .ok (.iconst 0, 1) := by decide +kernel
theorem dX12_strike_25 : decode cX12_strike 25 = .ok (.istore_n 3, 1) := by decide +kernel
theorem dX12_strike_26 : decode cX12_strike 26 = .ok (.aload_n 0, 1) := by decide +kernel
theorem dX12_strike_27 : decode cX12_strike 27 = .ok (.getfield 71, 3) := by decide +kernel
theorem dX12_strike_30 : decode cX12_strike 30 = .ok (.iload_n 1, 1) := by decide +kernel
theorem dX12_strike_31 : decode cX12_strike 31 = .ok (.iload_n 2, 1) := by decide +kernel
theorem dX12_strike_32 : decode cX12_strike 32 = .ok (.bastore, 1) := by decide +kernel
theorem dX12_strike_33 : decode cX12_strike 33 = .ok (.iload_n 3, 1) := by decide +kernel
theorem dX12_strike_34 : decode cX12_strike 34 = .ok (.ifCond .eq 7, 3) := by decide +kernel
theorem dX12_strike_37 : decode cX12_strike 37 = .ok (.iconst 1, 1) := by decide +kernel
theorem dX12_strike_38 : decode cX12_strike 38 = .ok (.goto 4, 3) := by decide +kernel
theorem dX12_strike_41 : decode cX12_strike 41 = .ok (.iconst 0, 1) := by decide +kernel
theorem dX12_strike_42 : decode cX12_strike 42 = .ok (.ireturn, 1) := by decide +kernel
theorem dX12_noCar_0 : decode cX12_noCar 0 = .ok (.iload_n 1, 1) := by decide +kernel
theorem dX12_noCar_1 : decode cX12_noCar 1 = .ok (.i2l, 1) := by decide +kernel
theorem dX12_noCar_2 : decode cX12_noCar 2 = .ok (.lconst 0, 1) := by decide +kernel
theorem dX12_noCar_3 : decode cX12_noCar 3 = .ok (.aload_n 0, 1) := by decide +kernel
theorem dX12_noCar_4 : decode cX12_noCar 4 = .ok (.getfield 238, 3) := by decide +kernel
theorem dX12_noCar_7 : decode cX12_noCar 7 = .ok (.i2l, 1) := by decide +kernel
theorem dX12_noCar_8 : decode cX12_noCar 8 = .ok (.lconst 1, 1) := by decide +kernel
theorem dX12_noCar_9 : decode cX12_noCar 9 = .ok (.lsub, 1) := by decide +kernel
theorem dX12_noCar_10 : decode cX12_noCar 10 = .ok (.invokestatic 111, 3) := by decide +kernel
theorem dX12_noCar_13 : decode cX12_noCar 13 = .ok (.ifCond .ne 7, 3) := by decide +kernel
theorem dX12_noCar_16 : decode cX12_noCar 16 = .ok (.iconst 1, 1) := by decide +kernel
theorem dX12_noCar_17 : decode cX12_noCar 17 = .ok (.goto 4, 3) := by decide +kernel
theorem dX12_noCar_20 : decode cX12_noCar 20 = .ok (.iconst 0, 1) := by decide +kernel
theorem dX12_noCar_21 : decode cX12_noCar 21 = .ok (.ireturn, 1) := by decide +kernel
theorem dX12_car_0 : decode cX12_car 0 = .ok (.iload_n 1, 1) := by decide +kernel
theorem dX12_car_1 : decode cX12_car 1 = .ok (.i2l, 1) := by decide +kernel
theorem dX12_car_2 : decode cX12_car 2 = .ok (.lconst 0, 1) := by decide +kernel
theorem dX12_car_3 : decode cX12_car 3 = .ok (.ldc2_w 241, 3) := by decide +kernel
theorem dX12_car_6 : decode cX12_car 6 = .ok (.invokestatic 111, 3) := by decide +kernel
theorem dX12_car_9 : decode cX12_car 9 = .ok (.ifCond .eq 15, 3) := by decide +kernel
theorem dX12_car_12 : decode cX12_car 12 = .ok (.iload_n 2, 1) := by decide +kernel
theorem dX12_car_13 : decode cX12_car 13 = .ok (.i2l, 1) := by decide +kernel
theorem dX12_car_14 : decode cX12_car 14 = .ok (.lconst 0, 1) := by decide +kernel
theorem dX12_car_15 : decode cX12_car 15 = .ok (.ldc2_w 123, 3) := by decide +kernel
theorem dX12_car_18 : decode cX12_car 18 = .ok (.invokestatic 111, 3) := by decide +kernel
theorem dX12_car_21 : decode cX12_car 21 = .ok (.ifCond .ne 6, 3) := by decide +kernel
theorem dX12_car_24 : decode cX12_car 24 = .ok (.bipush (-2), 2) := by decide +kernel
theorem dX12_car_26 : decode cX12_car 26 = .ok (.ireturn, 1) := by decide +kernel
theorem dX12_car_27 : decode cX12_car 27 = .ok (.aload_n 0, 1) := by decide +kernel
theorem dX12_car_28 : decode cX12_car 28 = .ok (.getfield 238, 3) := by decide +kernel
theorem dX12_car_31 : decode cX12_car 31 = .ok (.bipush 8, 2) := by decide +kernel
theorem dX12_car_33 : decode cX12_car 33 = .ok (.if_icmp .ne 6, 3) := by decide +kernel
theorem dX12_car_36 : decode cX12_car 36 = .ok (.bipush (-4), 2) := by decide +kernel
theorem dX12_car_38 : decode cX12_car 38 = .ok (.ireturn, 1) := by decide +kernel
theorem dX12_car_39 : decode cX12_car 39 = .ok (.aload_n 0, 1) := by decide +kernel
theorem dX12_car_40 : decode cX12_car 40 = .ok (.getfield 80, 3) := by decide +kernel
theorem dX12_car_43 : decode cX12_car 43 = .ok (.aload_n 0, 1) := by decide +kernel
theorem dX12_car_44 : decode cX12_car 44 = .ok (.getfield 238, 3) := by decide +kernel
theorem dX12_car_47 : decode cX12_car 47 = .ok (.iload_n 1, 1) := by decide +kernel
theorem dX12_car_48 : decode cX12_car 48 = .ok (.iastore, 1) := by decide +kernel
theorem dX12_car_49 : decode cX12_car 49 = .ok (.aload_n 0, 1) := by decide +kernel
theorem dX12_car_50 : decode cX12_car 50 = .ok (.getfield 83, 3) := by decide +kernel
theorem dX12_car_53 : decode cX12_car 53 = .ok (.aload_n 0, 1) := by decide +kernel
theorem dX12_car_54 : decode cX12_car 54 = .ok (.getfield 238, 3) := by decide +kernel
theorem dX12_car_57 : decode cX12_car 57 = .ok (.iload_n 2, 1) := by decide +kernel
theorem dX12_car_58 : decode cX12_car 58 = .ok (.iastore, 1) := by decide +kernel
theorem dX12_car_59 : decode cX12_car 59 = .ok (.aload_n 0, 1) := by decide +kernel
theorem dX12_car_60 : decode cX12_car 60 = .ok (.dup, 1) := by decide +kernel
theorem dX12_car_61 : decode cX12_car 61 = .ok (.getfield 238, 3) := by decide +kernel
theorem dX12_car_64 : decode cX12_car 64 = .ok (.iconst 1, 1) := by decide +kernel
theorem dX12_car_65 : decode cX12_car 65 = .ok (.iadd, 1) := by decide +kernel
theorem dX12_car_66 : decode cX12_car 66 = .ok (.putfield 238, 3) := by decide +kernel
theorem dX12_car_69 : decode cX12_car 69 = .ok (.aload_n 0, 1) := by decide +kernel
theorem dX12_car_70 : decode cX12_car 70 = .ok (.getfield 238, 3) := by decide +kernel
theorem dX12_car_73 : decode cX12_car 73 = .ok (.iconst 1, 1) := by decide +kernel
theorem dX12_car_74 : decode cX12_car 74 = .ok (.isub, 1) := by decide +kernel
theorem dX12_car_75 : decode cX12_car 75 = .ok (.ireturn, 1) := by decide +kernel
theorem dX12_clock_0 : decode cX12_clock 0 = .ok (.aload_n 0, 1) := by decide +kernel
theorem dX12_clock_1 : decode cX12_clock 1 = .ok (.iload_n 1, 1) := by decide +kernel
theorem dX12_clock_2 : decode cX12_clock 2 = .ok (.invokevirtual 243, 3) := by decide +kernel
theorem dX12_clock_5 : decode cX12_clock 5 = .ok (.ifCond .ne 11, 3) := by decide +kernel
theorem dX12_clock_8 : decode cX12_clock 8 = .ok (.aload_n 0, 1) := by decide +kernel
theorem dX12_clock_9 : decode cX12_clock 9 = .ok (.iload_n 2, 1) := by decide +kernel
theorem dX12_clock_10 : decode cX12_clock 10 = .ok (.invokevirtual 228, 3) := by decide +kernel
theorem dX12_clock_13 : decode cX12_clock 13 = .ok (.ifCond .eq 5, 3) := by decide +kernel
theorem dX12_clock_16 : decode cX12_clock 16 = .ok (.iconst (-1), 1) := by decide +kernel
theorem dX12_clock_17 : decode cX12_clock 17 = .ok (.ireturn, 1) := by decide +kernel
theorem dX12_clock_18 : decode cX12_clock 18 = .ok (.iload_n 3, 1) := by decide +kernel
theorem dX12_clock_19 : decode cX12_clock 19 = .ok (.invokestatic 231, 3) := by decide +kernel
theorem dX12_clock_22 : decode cX12_clock 22 = .ok (.ifCond .ne 6, 3) := by decide +kernel
theorem dX12_clock_25 : decode cX12_clock 25 = .ok (.bipush (-2), 2) := by decide +kernel
theorem dX12_clock_27 : decode cX12_clock 27 = .ok (.ireturn, 1) := by decide +kernel
theorem dX12_clock_28 : decode cX12_clock 28 = .ok (.aload_n 0, 1) := by decide +kernel
theorem dX12_clock_29 : decode cX12_clock 29 = .ok (.getfield 86, 3) := by decide +kernel
theorem dX12_clock_32 : decode cX12_clock 32 = .ok (.bipush 8, 2) := by decide +kernel
theorem dX12_clock_34 : decode cX12_clock 34 = .ok (.iload_n 1, 1) := by decide +kernel
theorem dX12_clock_35 : decode cX12_clock 35 = .ok (.imul, 1) := by decide +kernel
theorem dX12_clock_36 : decode cX12_clock 36 = .ok (.iload_n 2, 1) := by decide +kernel
theorem dX12_clock_37 : decode cX12_clock 37 = .ok (.iadd, 1) := by decide +kernel
theorem dX12_clock_38 : decode cX12_clock 38 = .ok (.iaload, 1) := by decide +kernel
theorem dX12_clock_39 : decode cX12_clock 39 = .ok (.ifCond .le 6, 3) := by decide +kernel
theorem dX12_clock_42 : decode cX12_clock 42 = .ok (.bipush (-3), 2) := by decide +kernel
theorem dX12_clock_44 : decode cX12_clock 44 = .ok (.ireturn, 1) := by decide +kernel
theorem dX12_clock_45 : decode cX12_clock 45 = .ok (.aload_n 0, 1) := by decide +kernel
theorem dX12_clock_46 : decode cX12_clock 46 = .ok (.dup, 1) := by decide +kernel
theorem dX12_clock_47 : decode cX12_clock 47 = .ok (.getfield 202, 3) := by decide +kernel
theorem dX12_clock_50 : decode cX12_clock 50 = .ok (.iconst 1, 1) := by decide +kernel
theorem dX12_clock_51 : decode cX12_clock 51 = .ok (.iadd, 1) := by decide +kernel
theorem dX12_clock_52 : decode cX12_clock 52 = .ok (.putfield 202, 3) := by decide +kernel
theorem dX12_clock_55 : decode cX12_clock 55 = .ok (.aload_n 0, 1) := by decide +kernel
theorem dX12_clock_56 : decode cX12_clock 56 = .ok (.getfield 86, 3) := by decide +kernel
theorem dX12_clock_59 : decode cX12_clock 59 = .ok (.bipush 8, 2) := by decide +kernel
theorem dX12_clock_61 : decode cX12_clock 61 = .ok (.iload_n 1, 1) := by decide +kernel
theorem dX12_clock_62 : decode cX12_clock 62 = .ok (.imul, 1) := by decide +kernel
theorem dX12_clock_63 : decode cX12_clock 63 = .ok (.iload_n 2, 1) := by decide +kernel
theorem dX12_clock_64 : decode cX12_clock 64 = .ok (.iadd, 1) := by decide +kernel
theorem dX12_clock_65 : decode cX12_clock 65 = .ok (.aload_n 0, 1) := by decide +kernel
theorem dX12_clock_66 : decode cX12_clock 66 = .ok (.getfield 202, 3) := by decide +kernel
theorem dX12_clock_69 : decode cX12_clock 69 = .ok (.iastore, 1) := by decide +kernel
theorem dX12_clock_70 : decode cX12_clock 70 = .ok (.aload_n 0, 1) := by decide +kernel
theorem dX12_clock_71 : decode cX12_clock 71 = .ok (.getfield 89, 3) := by decide +kernel
theorem dX12_clock_74 : decode cX12_clock 74 = .ok (.bipush 8, 2) := by decide +kernel
theorem dX12_clock_76 : decode cX12_clock 76 = .ok (.iload_n 1, 1) := by decide +kernel
theorem dX12_clock_77 : decode cX12_clock 77 = .ok (.imul, 1) := by decide +kernel
theorem dX12_clock_78 : decode cX12_clock 78 = .ok (.iload_n 2, 1) := by decide +kernel
theorem dX12_clock_79 : decode cX12_clock 79 = .ok (.iadd, 1) := by decide +kernel
theorem dX12_clock_80 : decode cX12_clock 80 = .ok (.iload_n 3, 1) := by decide +kernel
theorem dX12_clock_81 : decode cX12_clock 81 = .ok (.iastore, 1) := by decide +kernel
theorem dX12_clock_82 : decode cX12_clock 82 = .ok (.iconst 1, 1) := by decide +kernel
theorem dX12_clock_83 : decode cX12_clock 83 = .ok (.ireturn, 1) := by decide +kernel
theorem dX12_allow_0 : decode cX12_allow 0 = .ok (.aload_n 0, 1) := by decide +kernel
theorem dX12_allow_1 : decode cX12_allow 1 = .ok (.iload_n 1, 1) := by decide +kernel
theorem dX12_allow_2 : decode cX12_allow 2 = .ok (.invokevirtual 243, 3) := by decide +kernel
theorem dX12_allow_5 : decode cX12_allow 5 = .ok (.ifCond .ne 11, 3) := by decide +kernel
theorem dX12_allow_8 : decode cX12_allow 8 = .ok (.aload_n 0, 1) := by decide +kernel
theorem dX12_allow_9 : decode cX12_allow 9 = .ok (.iload_n 2, 1) := by decide +kernel
theorem dX12_allow_10 : decode cX12_allow 10 = .ok (.invokevirtual 228, 3) := by decide +kernel
theorem dX12_allow_13 : decode cX12_allow 13 = .ok (.ifCond .eq 5, 3) := by decide +kernel
theorem dX12_allow_16 : decode cX12_allow 16 = .ok (.iconst (-1), 1) := by decide +kernel
theorem dX12_allow_17 : decode cX12_allow 17 = .ok (.ireturn, 1) := by decide +kernel
theorem dX12_allow_18 : decode cX12_allow 18 = .ok (.iload_n 3, 1) := by decide +kernel
theorem dX12_allow_19 : decode cX12_allow 19 = .ok (.i2l, 1) := by decide +kernel
theorem dX12_allow_20 : decode cX12_allow 20 = .ok (.lconst 0, 1) := by decide +kernel
theorem dX12_allow_21 : decode cX12_allow 21 = .ok (.ldc2_w 216, 3) := by decide +kernel
theorem dX12_allow_24 : decode cX12_allow 24 = .ok (.invokestatic 111, 3) := by decide +kernel
theorem dX12_allow_27 : decode cX12_allow 27 = .ok (.ifCond .ne 6, 3) := by decide +kernel
theorem dX12_allow_30 : decode cX12_allow 30 = .ok (.bipush (-2), 2) := by decide +kernel
theorem dX12_allow_32 : decode cX12_allow 32 = .ok (.ireturn, 1) := by decide +kernel
theorem dX12_allow_33 : decode cX12_allow 33 = .ok (.aload_n 0, 1) := by decide +kernel
theorem dX12_allow_34 : decode cX12_allow 34 = .ok (.getfield 92, 3) := by decide +kernel
theorem dX12_allow_37 : decode cX12_allow 37 = .ok (.bipush 8, 2) := by decide +kernel
theorem dX12_allow_39 : decode cX12_allow 39 = .ok (.iload_n 1, 1) := by decide +kernel
theorem dX12_allow_40 : decode cX12_allow 40 = .ok (.imul, 1) := by decide +kernel
theorem dX12_allow_41 : decode cX12_allow 41 = .ok (.iload_n 2, 1) := by decide +kernel
theorem dX12_allow_42 : decode cX12_allow 42 = .ok (.iadd, 1) := by decide +kernel
theorem dX12_allow_43 : decode cX12_allow 43 = .ok (.iaload, 1) := by decide +kernel
theorem dX12_allow_44 : decode cX12_allow 44 = .ok (.istore 4, 2) := by decide +kernel
theorem dX12_allow_46 : decode cX12_allow 46 = .ok (.aload_n 0, 1) := by decide +kernel
theorem dX12_allow_47 : decode cX12_allow 47 = .ok (.getfield 92, 3) := by decide +kernel
theorem dX12_allow_50 : decode cX12_allow 50 = .ok (.bipush 8, 2) := by decide +kernel
theorem dX12_allow_52 : decode cX12_allow 52 = .ok (.iload_n 1, 1) := by decide +kernel
theorem dX12_allow_53 : decode cX12_allow 53 = .ok (.imul, 1) := by decide +kernel
theorem dX12_allow_54 : decode cX12_allow 54 = .ok (.iload_n 2, 1) := by decide +kernel
theorem dX12_allow_55 : decode cX12_allow 55 = .ok (.iadd, 1) := by decide +kernel
theorem dX12_allow_56 : decode cX12_allow 56 = .ok (.iload_n 3, 1) := by decide +kernel
theorem dX12_allow_57 : decode cX12_allow 57 = .ok (.iastore, 1) := by decide +kernel
theorem dX12_allow_58 : decode cX12_allow 58 = .ok (.iload 4, 2) := by decide +kernel
theorem dX12_allow_60 : decode cX12_allow 60 = .ok (.ireturn, 1) := by decide +kernel
theorem dX12_carried_0 : decode cX12_carried 0 = .ok (.lconst 0, 1) := by decide +kernel
theorem dX12_carried_1 : decode cX12_carried 1 = .ok (.lstore_n 3, 1) := by decide +kernel
theorem dX12_carried_2 : decode cX12_carried 2 = .ok (.iconst 0, 1) := by decide +kernel
theorem dX12_carried_3 : decode cX12_carried 3 = .ok (.istore 5, 2) := by decide +kernel
theorem dX12_carried_5 : decode cX12_carried 5 = .ok (.iload 5, 2) := by decide +kernel
theorem dX12_carried_7 : decode cX12_carried 7 = .ok (.aload_n 0, 1) := by decide +kernel
theorem dX12_carried_8 : decode cX12_carried 8 = .ok (.getfield 199, 3) := by decide +kernel
theorem dX12_carried_11 : decode cX12_carried 11 = .ok (.if_icmp .ge 63, 3) := by decide +kernel
theorem dX12_carried_14 : decode cX12_carried 14 = .ok (.aload_n 0, 1) := by decide +kernel
theorem dX12_carried_15 : decode cX12_carried 15 = .ok (.getfield 92, 3) := by decide +kernel
theorem dX12_carried_18 : decode cX12_carried 18 = .ok (.bipush 8, 2) := by decide +kernel
theorem dX12_carried_20 : decode cX12_carried 20 = .ok (.iload_n 1, 1) := by decide +kernel
theorem dX12_carried_21 : decode cX12_carried 21 = .ok (.imul, 1) := by decide +kernel
theorem dX12_carried_22 : decode cX12_carried 22 = .ok (.iload 5, 2) := by decide +kernel
theorem dX12_carried_24 : decode cX12_carried 24 = .ok (.iadd, 1) := by decide +kernel
theorem dX12_carried_25 : decode cX12_carried 25 = .ok (.iaload, 1) := by decide +kernel
theorem dX12_carried_26 : decode cX12_carried 26 = .ok (.istore 6, 2) := by decide +kernel
theorem dX12_carried_28 : decode cX12_carried 28 = .ok (.lload_n 3, 1) := by decide +kernel
theorem dX12_carried_29 : decode cX12_carried 29 = .ok (.aload_n 0, 1) := by decide +kernel
theorem dX12_carried_30 : decode cX12_carried 30 = .ok (.getfield 68, 3) := by decide +kernel
theorem dX12_carried_33 : decode cX12_carried 33 = .ok (.iload 5, 2) := by decide +kernel
theorem dX12_carried_35 : decode cX12_carried 35 = .ok (.iaload, 1) := by decide +kernel
theorem dX12_carried_36 : decode cX12_carried 36 = .ok (.aload_n 0, 1) := by decide +kernel
theorem dX12_carried_37 : decode cX12_carried 37 = .ok (.getfield 68, 3) := by decide +kernel
theorem dX12_carried_40 : decode cX12_carried 40 = .ok (.iload_n 2, 1) := by decide +kernel
theorem dX12_carried_41 : decode cX12_carried 41 = .ok (.iaload, 1) := by decide +kernel
theorem dX12_carried_42 : decode cX12_carried 42 = .ok (.if_icmp .gt 23, 3) := by decide +kernel
theorem dX12_carried_45 : decode cX12_carried 45 = .ok (.iload 6, 2) := by decide +kernel
theorem dX12_carried_47 : decode cX12_carried 47 = .ok (.sipush 600, 3) := by decide +kernel
theorem dX12_carried_50 : decode cX12_carried 50 = .ok (.if_icmp .ge 9, 3) := by decide +kernel
theorem dX12_carried_53 : decode cX12_carried 53 = .ok (.iload 6, 2) := by decide +kernel
theorem dX12_carried_55 : decode cX12_carried 55 = .ok (.i2l, 1) := by decide +kernel
theorem dX12_carried_56 : decode cX12_carried 56 = .ok (.goto 10, 3) := by decide +kernel
theorem dX12_carried_59 : decode cX12_carried 59 = .ok (.ldc2_w 218, 3) := by decide +kernel
theorem dX12_carried_62 : decode cX12_carried 62 = .ok (.goto 4, 3) := by decide +kernel
theorem dX12_carried_65 : decode cX12_carried 65 = .ok (.lconst 0, 1) := by decide +kernel
theorem dX12_carried_66 : decode cX12_carried 66 = .ok (.ladd, 1) := by decide +kernel
theorem dX12_carried_67 : decode cX12_carried 67 = .ok (.lstore_n 3, 1) := by decide +kernel
theorem dX12_carried_68 : decode cX12_carried 68 = .ok (.iinc 5 1, 3) := by decide +kernel
theorem dX12_carried_71 : decode cX12_carried 71 = .ok (.goto (-66), 3) := by decide +kernel
theorem dX12_carried_74 : decode cX12_carried 74 = .ok (.lload_n 3, 1) := by decide +kernel
theorem dX12_carried_75 : decode cX12_carried 75 = .ok (.ldc2_w 246, 3) := by decide +kernel
theorem dX12_carried_78 : decode cX12_carried 78 = .ok (.lcmp, 1) := by decide +kernel
theorem dX12_carried_79 : decode cX12_carried 79 = .ok (.ifCond .ge 7, 3) := by decide +kernel
theorem dX12_carried_82 : decode cX12_carried 82 = .ok (.lload_n 3, 1) := by decide +kernel
theorem dX12_carried_83 : decode cX12_carried 83 = .ok (.goto 6, 3) := by decide +kernel
theorem dX12_carried_86 : decode cX12_carried 86 = .ok (.ldc2_w 246, 3) := by decide +kernel
theorem dX12_carried_89 : decode cX12_carried 89 = .ok (.lreturn, 1) := by decide +kernel
theorem dX12_errorAt_0 : decode cX12_errorAt 0 = .ok (.aload_n 0, 1) := by decide +kernel
theorem dX12_errorAt_1 : decode cX12_errorAt 1 = .ok (.iload_n 2, 1) := by decide +kernel
theorem dX12_errorAt_2 : decode cX12_errorAt 2 = .ok (.aload_n 0, 1) := by decide +kernel
theorem dX12_errorAt_3 : decode cX12_errorAt 3 = .ok (.getfield 89, 3) := by decide +kernel
theorem dX12_errorAt_6 : decode cX12_errorAt 6 = .ok (.bipush 8, 2) := by decide +kernel
theorem dX12_errorAt_8 : decode cX12_errorAt 8 = .ok (.iload_n 1, 1) := by decide +kernel
theorem dX12_errorAt_9 : decode cX12_errorAt 9 = .ok (.imul, 1) := by decide +kernel
theorem dX12_errorAt_10 : decode cX12_errorAt 10 = .ok (.iload_n 2, 1) := by decide +kernel
theorem dX12_errorAt_11 : decode cX12_errorAt 11 = .ok (.iadd, 1) := by decide +kernel
theorem dX12_errorAt_12 : decode cX12_errorAt 12 = .ok (.iaload, 1) := by decide +kernel
theorem dX12_errorAt_13 : decode cX12_errorAt 13 = .ok (.i2l, 1) := by decide +kernel
theorem dX12_errorAt_14 : decode cX12_errorAt 14 = .ok (.invokevirtual 234, 3) := by decide +kernel
theorem dX12_errorAt_17 : decode cX12_errorAt 17 = .ok (.aload_n 0, 1) := by decide +kernel
theorem dX12_errorAt_18 : decode cX12_errorAt 18 = .ok (.getfield 80, 3) := by decide +kernel
theorem dX12_errorAt_21 : decode cX12_errorAt 21 = .ok (.iload_n 1, 1) := by decide +kernel
theorem dX12_errorAt_22 : decode cX12_errorAt 22 = .ok (.iaload, 1) := by decide +kernel
theorem dX12_errorAt_23 : decode cX12_errorAt 23 = .ok (.i2l, 1) := by decide +kernel
theorem dX12_errorAt_24 : decode cX12_errorAt 24 = .ok (.lsub, 1) := by decide +kernel
theorem dX12_errorAt_25 : decode cX12_errorAt 25 = .ok (.aload_n 0, 1) := by decide +kernel
theorem dX12_errorAt_26 : decode cX12_errorAt 26 = .ok (.aload_n 0, 1) := by decide +kernel
theorem dX12_errorAt_27 : decode cX12_errorAt 27 = .ok (.getfield 68, 3) := by decide +kernel
theorem dX12_errorAt_30 : decode cX12_errorAt 30 = .ok (.iload_n 2, 1) := by decide +kernel
theorem dX12_errorAt_31 : decode cX12_errorAt 31 = .ok (.iaload, 1) := by decide +kernel
theorem dX12_errorAt_32 : decode cX12_errorAt 32 = .ok (.invokevirtual 223, 3) := by decide +kernel
theorem dX12_errorAt_35 : decode cX12_errorAt 35 = .ok (.lsub, 1) := by decide +kernel
theorem dX12_errorAt_36 : decode cX12_errorAt 36 = .ok (.lstore_n 3, 1) := by decide +kernel
theorem dX12_errorAt_37 : decode cX12_errorAt 37 = .ok (.lload_n 3, 1) := by decide +kernel
theorem dX12_errorAt_38 : decode cX12_errorAt 38 = .ok (.lconst 0, 1) := by decide +kernel
theorem dX12_errorAt_39 : decode cX12_errorAt 39 = .ok (.lcmp, 1) := by decide +kernel
theorem dX12_errorAt_40 : decode cX12_errorAt 40 = .ok (.ifCond .gt 5, 3) := by decide +kernel
theorem dX12_errorAt_43 : decode cX12_errorAt 43 = .ok (.lload_n 3, 1) := by decide +kernel
theorem dX12_errorAt_44 : decode cX12_errorAt 44 = .ok (.lreturn, 1) := by decide +kernel
theorem dX12_errorAt_45 : decode cX12_errorAt 45 = .ok (.lload_n 3, 1) := by decide +kernel
theorem dX12_errorAt_46 : decode cX12_errorAt 46 = .ok (.aload_n 0, 1) := by decide +kernel
theorem dX12_errorAt_47 : decode cX12_errorAt 47 = .ok (.iload_n 1, 1) := by decide +kernel
theorem dX12_errorAt_48 : decode cX12_errorAt 48 = .ok (.iload_n 2, 1) := by decide +kernel
theorem dX12_errorAt_49 : decode cX12_errorAt 49 = .ok (.invokevirtual 248, 3) := by decide +kernel
theorem dX12_errorAt_52 : decode cX12_errorAt 52 = .ok (.lsub, 1) := by decide +kernel
theorem dX12_errorAt_53 : decode cX12_errorAt 53 = .ok (.lstore 5, 2) := by decide +kernel
theorem dX12_errorAt_55 : decode cX12_errorAt 55 = .ok (.lload 5, 2) := by decide +kernel
theorem dX12_errorAt_57 : decode cX12_errorAt 57 = .ok (.lconst 0, 1) := by decide +kernel
theorem dX12_errorAt_58 : decode cX12_errorAt 58 = .ok (.lcmp, 1) := by decide +kernel
theorem dX12_errorAt_59 : decode cX12_errorAt 59 = .ok (.ifCond .le 8, 3) := by decide +kernel
theorem dX12_errorAt_62 : decode cX12_errorAt 62 = .ok (.lload 5, 2) := by decide +kernel
theorem dX12_errorAt_64 : decode cX12_errorAt 64 = .ok (.goto 4, 3) := by decide +kernel
theorem dX12_errorAt_67 : decode cX12_errorAt 67 = .ok (.lconst 0, 1) := by decide +kernel
theorem dX12_errorAt_68 : decode cX12_errorAt 68 = .ok (.lreturn, 1) := by decide +kernel
theorem dX12_error_0 : decode cX12_error 0 = .ok (.aload_n 0, 1) := by decide +kernel
theorem dX12_error_1 : decode cX12_error 1 = .ok (.iload_n 1, 1) := by decide +kernel
theorem dX12_error_2 : decode cX12_error 2 = .ok (.invokevirtual 243, 3) := by decide +kernel
theorem dX12_error_5 : decode cX12_error 5 = .ok (.ifCond .ne 32, 3) := by decide +kernel
theorem dX12_error_8 : decode cX12_error 8 = .ok (.aload_n 0, 1) := by decide +kernel
theorem dX12_error_9 : decode cX12_error 9 = .ok (.iload_n 2, 1) := by decide +kernel
theorem dX12_error_10 : decode cX12_error 10 = .ok (.invokevirtual 228, 3) := by decide +kernel
theorem dX12_error_13 : decode cX12_error 13 = .ok (.ifCond .ne 24, 3) := by decide +kernel
theorem dX12_error_16 : decode cX12_error 16 = .ok (.aload_n 0, 1) := by decide +kernel
theorem dX12_error_17 : decode cX12_error 17 = .ok (.getfield 86, 3) := by decide +kernel
theorem dX12_error_20 : decode cX12_error 20 = .ok (.bipush 8, 2) := by decide +kernel
theorem dX12_error_22 : decode cX12_error 22 = .ok (.iload_n 1, 1) := by decide +kernel
theorem dX12_error_23 : decode cX12_error 23 = .ok (.imul, 1) := by decide +kernel
theorem dX12_error_24 : decode cX12_error 24 = .ok (.iload_n 2, 1) := by decide +kernel
theorem dX12_error_25 : decode cX12_error 25 = .ok (.iadd, 1) := by decide +kernel
theorem dX12_error_26 : decode cX12_error 26 = .ok (.iaload, 1) := by decide +kernel
theorem dX12_error_27 : decode cX12_error 27 = .ok (.ifCond .eq 10, 3) := by decide +kernel
theorem dX12_error_30 : decode cX12_error 30 = .ok (.aload_n 0, 1) := by decide +kernel
theorem dX12_error_31 : decode cX12_error 31 = .ok (.invokevirtual 220, 3) := by decide +kernel
theorem dX12_error_34 : decode cX12_error 34 = .ok (.ifCond .ne 9, 3) := by decide +kernel
theorem dX12_error_37 : decode cX12_error 37 = .ok (.invokestatic 104, 3) := by decide +kernel
theorem dX12_error_40 : decode cX12_error 40 = .ok (.goto 9, 3) := by decide +kernel
theorem dX12_error_43 : decode cX12_error 43 = .ok (.aload_n 0, 1) := by decide +kernel
theorem dX12_error_44 : decode cX12_error 44 = .ok (.iload_n 1, 1) := by decide +kernel
theorem dX12_error_45 : decode cX12_error 45 = .ok (.iload_n 2, 1) := by decide +kernel
theorem dX12_error_46 : decode cX12_error 46 = .ok (.invokevirtual 252, 3) := by decide +kernel
theorem dX12_error_49 : decode cX12_error 49 = .ok (.lreturn, 1) := by decide +kernel
theorem dX12_isOutOfOrder_0 : decode cX12_isOutOfOrder 0 = .ok (.aload_n 0, 1) := by decide +kernel
theorem dX12_isOutOfOrder_1 : decode cX12_isOutOfOrder 1 = .ok (.getfield 86, 3) := by decide +kernel
theorem dX12_isOutOfOrder_4 : decode cX12_isOutOfOrder 4 = .ok (.bipush 8, 2) := by decide +kernel
theorem dX12_isOutOfOrder_6 : decode cX12_isOutOfOrder 6 = .ok (.iload_n 1, 1) := by decide +kernel
theorem dX12_isOutOfOrder_7 : decode cX12_isOutOfOrder 7 = .ok (.imul, 1) := by decide +kernel
theorem dX12_isOutOfOrder_8 : decode cX12_isOutOfOrder 8 = .ok (.iload_n 2, 1) := by decide +kernel
theorem dX12_isOutOfOrder_9 : decode cX12_isOutOfOrder 9 = .ok (.iadd, 1) := by decide +kernel
theorem dX12_isOutOfOrder_10 : decode cX12_isOutOfOrder 10 = .ok (.iaload, 1) := by decide +kernel
theorem dX12_isOutOfOrder_11 : decode cX12_isOutOfOrder 11 = .ok (.istore_n 3, 1) := by decide +kernel
theorem dX12_isOutOfOrder_12 : decode cX12_isOutOfOrder 12 = .ok (.iconst 0, 1) := by decide +kernel
theorem dX12_isOutOfOrder_13 : decode cX12_isOutOfOrder 13 = .ok (.istore 4, 2) := by decide +kernel
theorem dX12_isOutOfOrder_15 : decode cX12_isOutOfOrder 15 = .ok (.iconst 0, 1) := by decide +kernel
theorem dX12_isOutOfOrder_16 : decode cX12_isOutOfOrder 16 = .ok (.istore 5, 2) := by decide +kernel
theorem dX12_isOutOfOrder_18 : decode cX12_isOutOfOrder 18 = .ok (.iload 5, 2) := by decide +kernel
theorem dX12_isOutOfOrder_20 : decode cX12_isOutOfOrder 20 = .ok (.aload_n 0, 1) := by decide +kernel
theorem dX12_isOutOfOrder_21 : decode cX12_isOutOfOrder 21 = .ok (.getfield 199, 3) := by decide +kernel
theorem dX12_isOutOfOrder_24 : decode cX12_isOutOfOrder 24 = .ok (.if_icmp .ge 72, 3) := by decide +kernel
theorem dX12_isOutOfOrder_27 : decode cX12_isOutOfOrder 27 = .ok (.aload_n 0, 1) := by decide +kernel
theorem dX12_isOutOfOrder_28 : decode cX12_isOutOfOrder 28 = .ok (.getfield 86, 3) := by decide +kernel
theorem dX12_isOutOfOrder_31 : decode cX12_isOutOfOrder 31 = .ok (.bipush 8, 2) := by decide +kernel
theorem dX12_isOutOfOrder_33 : decode cX12_isOutOfOrder 33 = .ok (.iload_n 1, 1) := by decide +kernel
theorem dX12_isOutOfOrder_34 : decode cX12_isOutOfOrder 34 = .ok (.imul, 1) := by decide +kernel
theorem dX12_isOutOfOrder_35 : decode cX12_isOutOfOrder 35 = .ok (.iload 5, 2) := by decide +kernel
theorem dX12_isOutOfOrder_37 : decode cX12_isOutOfOrder 37 = .ok (.iadd, 1) := by decide +kernel
theorem dX12_isOutOfOrder_38 : decode cX12_isOutOfOrder 38 = .ok (.iaload, 1) := by decide +kernel
theorem dX12_isOutOfOrder_39 : decode cX12_isOutOfOrder 39 = .ok (.istore 6, 2) := by decide +kernel
theorem dX12_isOutOfOrder_41 : decode cX12_isOutOfOrder 41 = .ok (.iload 4, 2) := by decide +kernel
theorem dX12_isOutOfOrder_43 : decode cX12_isOutOfOrder 43 = .ok (.ifCond .ne 40, 3) := by decide +kernel
theorem dX12_isOutOfOrder_46 : decode cX12_isOutOfOrder 46 = .ok (.aload_n 0, 1) := by decide +kernel
theorem dX12_isOutOfOrder_47 : decode cX12_isOutOfOrder 47 = .ok (.getfield 68, 3) := by decide +kernel
theorem dX12_isOutOfOrder_50 : decode cX12_isOutOfOrder 50 = .ok (.iload 5, 2) := by decide +kernel
theorem dX12_isOutOfOrder_52 : decode cX12_isOutOfOrder 52 = .ok (.iaload, 1) := by decide +kernel
theorem dX12_isOutOfOrder_53 : decode cX12_isOutOfOrder 53 = .ok (.aload_n 0, 1) := by decide +kernel
theorem dX12_isOutOfOrder_54 : decode cX12_isOutOfOrder 54 = .ok (.getfield 68, 3) := by decide +kernel
theorem dX12_isOutOfOrder_57 : decode cX12_isOutOfOrder 57 = .ok (.iload_n 2, 1) := by decide +kernel
theorem dX12_isOutOfOrder_58 : decode cX12_isOutOfOrder 58 = .ok (.iaload, 1) := by decide +kernel
theorem dX12_isOutOfOrder_59 : decode cX12_isOutOfOrder 59 = .ok (.if_icmp .le 28, 3) := by decide +kernel
theorem dX12_isOutOfOrder_62 : decode cX12_isOutOfOrder 62 = .ok (.aload_n 0, 1) := by decide +kernel
theorem dX12_isOutOfOrder_63 : decode cX12_isOutOfOrder 63 = .ok (.getfield 71, 3) := by decide +kernel
theorem dX12_isOutOfOrder_66 : decode cX12_isOutOfOrder 66 = .ok (.iload 5, 2) := by decide +kernel
theorem dX12_isOutOfOrder_68 : decode cX12_isOutOfOrder 68 = .ok (.baload, 1) := by decide +kernel
theorem dX12_isOutOfOrder_69 : decode cX12_isOutOfOrder 69 = .ok (.ifCond .ne 18, 3) := by decide +kernel
theorem dX12_isOutOfOrder_72 : decode cX12_isOutOfOrder 72 = .ok (.iload 6, 2) := by decide +kernel
theorem dX12_isOutOfOrder_74 : decode cX12_isOutOfOrder 74 = .ok (.ifCond .le 13, 3) := by decide +kernel
theorem dX12_isOutOfOrder_77 : decode cX12_isOutOfOrder 77 = .ok (.iload 6, 2) := by decide +kernel
theorem dX12_isOutOfOrder_79 : decode cX12_isOutOfOrder 79 = .ok (.iload_n 3, 1) := by decide +kernel
theorem dX12_isOutOfOrder_80 : decode cX12_isOutOfOrder 80 = .ok (.if_icmp .ge 7, 3) := by decide +kernel
theorem dX12_isOutOfOrder_83 : decode cX12_isOutOfOrder 83 = .ok (.iconst 1, 1) := by decide +kernel
theorem dX12_isOutOfOrder_84 : decode cX12_isOutOfOrder 84 = .ok (.goto 4, 3) := by decide +kernel
theorem dX12_isOutOfOrder_87 : decode cX12_isOutOfOrder 87 = .ok (.iconst 0, 1) := by decide +kernel
theorem dX12_isOutOfOrder_88 : decode cX12_isOutOfOrder 88 = .ok (.istore 4, 2) := by decide +kernel
theorem dX12_isOutOfOrder_90 : decode cX12_isOutOfOrder 90 = .ok (.iinc 5 1, 3) := by decide +kernel
theorem dX12_isOutOfOrder_93 : decode cX12_isOutOfOrder 93 = .ok (.goto (-75), 3) := by decide +kernel
theorem dX12_isOutOfOrder_96 : decode cX12_isOutOfOrder 96 = .ok (.iload 4, 2) := by decide +kernel
theorem dX12_isOutOfOrder_98 : decode cX12_isOutOfOrder 98 = .ok (.ireturn, 1) := by decide +kernel
theorem dX12_pointsAt_0 : decode cX12_pointsAt 0 = .ok (.aload_n 0, 1) := by decide +kernel
theorem dX12_pointsAt_1 : decode cX12_pointsAt 1 = .ok (.getfield 71, 3) := by decide +kernel
theorem dX12_pointsAt_4 : decode cX12_pointsAt 4 = .ok (.iload_n 2, 1) := by decide +kernel
theorem dX12_pointsAt_5 : decode cX12_pointsAt 5 = .ok (.baload, 1) := by decide +kernel
theorem dX12_pointsAt_6 : decode cX12_pointsAt 6 = .ok (.ifCond .eq 5, 3) := by decide +kernel
theorem dX12_pointsAt_9 : decode cX12_pointsAt 9 = .ok (.iconst 0, 1) := by decide +kernel
theorem dX12_pointsAt_10 : decode cX12_pointsAt 10 = .ok (.ireturn, 1) := by decide +kernel
theorem dX12_pointsAt_11 : decode cX12_pointsAt 11 = .ok (.aload_n 0, 1) := by decide +kernel
theorem dX12_pointsAt_12 : decode cX12_pointsAt 12 = .ok (.getfield 86, 3) := by decide +kernel
theorem dX12_pointsAt_15 : decode cX12_pointsAt 15 = .ok (.bipush 8, 2) := by decide +kernel
theorem dX12_pointsAt_17 : decode cX12_pointsAt 17 = .ok (.iload_n 1, 1) := by decide +kernel
theorem dX12_pointsAt_18 : decode cX12_pointsAt 18 = .ok (.imul, 1) := by decide +kernel
theorem dX12_pointsAt_19 : decode cX12_pointsAt 19 = .ok (.iload_n 2, 1) := by decide +kernel
theorem dX12_pointsAt_20 : decode cX12_pointsAt 20 = .ok (.iadd, 1) := by decide +kernel
theorem dX12_pointsAt_21 : decode cX12_pointsAt 21 = .ok (.iaload, 1) := by decide +kernel
theorem dX12_pointsAt_22 : decode cX12_pointsAt 22 = .ok (.ifCond .ne 7, 3) := by decide +kernel
theorem dX12_pointsAt_25 : decode cX12_pointsAt 25 = .ok (.sipush 300, 3) := by decide +kernel
theorem dX12_pointsAt_28 : decode cX12_pointsAt 28 = .ok (.ireturn, 1) := by decide +kernel
theorem dX12_pointsAt_29 : decode cX12_pointsAt 29 = .ok (.aload_n 0, 1) := by decide +kernel
theorem dX12_pointsAt_30 : decode cX12_pointsAt 30 = .ok (.iload_n 1, 1) := by decide +kernel
theorem dX12_pointsAt_31 : decode cX12_pointsAt 31 = .ok (.iload_n 2, 1) := by decide +kernel
theorem dX12_pointsAt_32 : decode cX12_pointsAt 32 = .ok (.invokevirtual 255, 3) := by decide +kernel
theorem dX12_pointsAt_35 : decode cX12_pointsAt 35 = .ok (.ifCond .eq 6, 3) := by decide +kernel
theorem dX12_pointsAt_38 : decode cX12_pointsAt 38 = .ok (.bipush 100, 2) := by decide +kernel
theorem dX12_pointsAt_40 : decode cX12_pointsAt 40 = .ok (.ireturn, 1) := by decide +kernel
theorem dX12_pointsAt_41 : decode cX12_pointsAt 41 = .ok (.aload_n 0, 1) := by decide +kernel
theorem dX12_pointsAt_42 : decode cX12_pointsAt 42 = .ok (.iload_n 1, 1) := by decide +kernel
theorem dX12_pointsAt_43 : decode cX12_pointsAt 43 = .ok (.iload_n 2, 1) := by decide +kernel
theorem dX12_pointsAt_44 : decode cX12_pointsAt 44 = .ok (.invokevirtual 252, 3) := by decide +kernel
theorem dX12_pointsAt_47 : decode cX12_pointsAt 47 = .ok (.lstore_n 3, 1) := by decide +kernel
theorem dX12_pointsAt_48 : decode cX12_pointsAt 48 = .ok (.lload_n 3, 1) := by decide +kernel
theorem dX12_pointsAt_49 : decode cX12_pointsAt 49 = .ok (.lconst 0, 1) := by decide +kernel
theorem dX12_pointsAt_50 : decode cX12_pointsAt 50 = .ok (.lcmp, 1) := by decide +kernel
theorem dX12_pointsAt_51 : decode cX12_pointsAt 51 = .ok (.ifCond .ge 19, 3) := by decide +kernel
theorem dX12_pointsAt_54 : decode cX12_pointsAt 54 = .ok (.ldc2_w 123, 3) := by decide +kernel
theorem dX12_pointsAt_57 : decode cX12_pointsAt 57 = .ok (.ldc2_w 115, 3) := by decide +kernel
theorem dX12_pointsAt_60 : decode cX12_pointsAt 60 = .ok (.lload_n 3, 1) := by decide +kernel
theorem dX12_pointsAt_61 : decode cX12_pointsAt 61 = .ok (.lsub, 1) := by decide +kernel
theorem dX12_pointsAt_62 : decode cX12_pointsAt 62 = .ok (.ldc2_w 259, 3) := by decide +kernel
theorem dX12_pointsAt_65 : decode cX12_pointsAt 65 = .ok (.ldiv, 1) := by decide +kernel
theorem dX12_pointsAt_66 : decode cX12_pointsAt 66 = .ok (.lmul, 1) := by decide +kernel
theorem dX12_pointsAt_67 : decode cX12_pointsAt 67 = .ok (.goto 12, 3) := by decide +kernel
theorem dX12_pointsAt_70 : decode cX12_pointsAt 70 = .ok (.lload_n 3, 1) := by decide +kernel
theorem dX12_pointsAt_71 : decode cX12_pointsAt 71 = .ok (.ldc2_w 115, 3) := by decide +kernel
theorem dX12_pointsAt_74 : decode cX12_pointsAt 74 = .ok (.ladd, 1) := by decide +kernel
theorem dX12_pointsAt_75 : decode cX12_pointsAt 75 = .ok (.ldc2_w 259, 3) := by decide +kernel
theorem dX12_pointsAt_78 : decode cX12_pointsAt 78 = .ok (.ldiv, 1) := by decide +kernel
theorem dX12_pointsAt_79 : decode cX12_pointsAt 79 = .ok (.lstore 5, 2) := by decide +kernel
theorem dX12_pointsAt_81 : decode cX12_pointsAt 81 = .ok (.lload 5, 2) := by decide +kernel
theorem dX12_pointsAt_83 : decode cX12_pointsAt 83 = .ok (.ldc2_w 261, 3) := by decide +kernel
theorem dX12_pointsAt_86 : decode cX12_pointsAt 86 = .ok (.lcmp, 1) := by decide +kernel
theorem dX12_pointsAt_87 : decode cX12_pointsAt 87 = .ok (.ifCond .le 9, 3) := by decide +kernel
theorem dX12_pointsAt_90 : decode cX12_pointsAt 90 = .ok (.ldc2_w 261, 3) := by decide +kernel
theorem dX12_pointsAt_93 : decode cX12_pointsAt 93 = .ok (.goto 5, 3) := by decide +kernel
theorem dX12_pointsAt_96 : decode cX12_pointsAt 96 = .ok (.lload 5, 2) := by decide +kernel
theorem dX12_pointsAt_98 : decode cX12_pointsAt 98 = .ok (.lstore 5, 2) := by decide +kernel
theorem dX12_pointsAt_100 : decode cX12_pointsAt 100 = .ok (.aload_n 0, 1) := by decide +kernel
theorem dX12_pointsAt_101 : decode cX12_pointsAt 101 = .ok (.getfield 83, 3) := by decide +kernel
theorem dX12_pointsAt_104 : decode cX12_pointsAt 104 = .ok (.iload_n 1, 1) := by decide +kernel
theorem dX12_pointsAt_105 : decode cX12_pointsAt 105 = .ok (.iaload, 1) := by decide +kernel
theorem dX12_pointsAt_106 : decode cX12_pointsAt 106 = .ok (.ifCond .le 12, 3) := by decide +kernel
theorem dX12_pointsAt_109 : decode cX12_pointsAt 109 = .ok (.lload 5, 2) := by decide +kernel
theorem dX12_pointsAt_111 : decode cX12_pointsAt 111 = .ok (.ldc2_w 123, 3) := by decide +kernel
theorem dX12_pointsAt_114 : decode cX12_pointsAt 114 = .ok (.ldiv, 1) := by decide +kernel
theorem dX12_pointsAt_115 : decode cX12_pointsAt 115 = .ok (.goto 5, 3) := by decide +kernel
theorem dX12_pointsAt_118 : decode cX12_pointsAt 118 = .ok (.lload 5, 2) := by decide +kernel
theorem dX12_pointsAt_120 : decode cX12_pointsAt 120 = .ok (.lstore 5, 2) := by decide +kernel
theorem dX12_pointsAt_122 : decode cX12_pointsAt 122 = .ok (.aload_n 0, 1) := by decide +kernel
theorem dX12_pointsAt_123 : decode cX12_pointsAt 123 = .ok (.getfield 83, 3) := by decide +kernel
theorem dX12_pointsAt_126 : decode cX12_pointsAt 126 = .ok (.iload_n 1, 1) := by decide +kernel
theorem dX12_pointsAt_127 : decode cX12_pointsAt 127 = .ok (.iaload, 1) := by decide +kernel
theorem dX12_pointsAt_128 : decode cX12_pointsAt 128 = .ok (.iconst 2, 1) := by decide +kernel
theorem dX12_pointsAt_129 : decode cX12_pointsAt 129 = .ok (.if_icmp .ne 18, 3) := by decide +kernel
theorem dX12_pointsAt_132 : decode cX12_pointsAt 132 = .ok (.lload 5, 2) := by decide +kernel
theorem dX12_pointsAt_134 : decode cX12_pointsAt 134 = .ok (.ldc2_w 263, 3) := by decide +kernel
theorem dX12_pointsAt_137 : decode cX12_pointsAt 137 = .ok (.lcmp, 1) := by decide +kernel
theorem dX12_pointsAt_138 : decode cX12_pointsAt 138 = .ok (.ifCond .le 9, 3) := by decide +kernel
theorem dX12_pointsAt_141 : decode cX12_pointsAt 141 = .ok (.ldc2_w 263, 3) := by decide +kernel
theorem dX12_pointsAt_144 : decode cX12_pointsAt 144 = .ok (.goto 5, 3) := by decide +kernel
theorem dX12_pointsAt_147 : decode cX12_pointsAt 147 = .ok (.lload 5, 2) := by decide +kernel
theorem dX12_pointsAt_149 : decode cX12_pointsAt 149 = .ok (.l2i, 1) := by decide +kernel
theorem dX12_pointsAt_150 : decode cX12_pointsAt 150 = .ok (.ireturn, 1) := by decide +kernel
theorem dX12_points_0 : decode cX12_points 0 = .ok (.aload_n 0, 1) := by decide +kernel
theorem dX12_points_1 : decode cX12_points 1 = .ok (.iload_n 1, 1) := by decide +kernel
theorem dX12_points_2 : decode cX12_points 2 = .ok (.invokevirtual 243, 3) := by decide +kernel
theorem dX12_points_5 : decode cX12_points 5 = .ok (.ifCond .ne 11, 3) := by decide +kernel
theorem dX12_points_8 : decode cX12_points 8 = .ok (.aload_n 0, 1) := by decide +kernel
theorem dX12_points_9 : decode cX12_points 9 = .ok (.iload_n 2, 1) := by decide +kernel
theorem dX12_points_10 : decode cX12_points 10 = .ok (.invokevirtual 228, 3) := by decide +kernel
theorem dX12_points_13 : decode cX12_points 13 = .ok (.ifCond .eq 5, 3) := by decide +kernel
theorem dX12_points_16 : decode cX12_points 16 = .ok (.iconst (-1), 1) := by decide +kernel
theorem dX12_points_17 : decode cX12_points 17 = .ok (.ireturn, 1) := by decide +kernel
theorem dX12_points_18 : decode cX12_points 18 = .ok (.aload_n 0, 1) := by decide +kernel
theorem dX12_points_19 : decode cX12_points 19 = .ok (.invokevirtual 220, 3) := by decide +kernel
theorem dX12_points_22 : decode cX12_points 22 = .ok (.ifCond .eq 12, 3) := by decide +kernel
theorem dX12_points_25 : decode cX12_points 25 = .ok (.aload_n 0, 1) := by decide +kernel
theorem dX12_points_26 : decode cX12_points 26 = .ok (.iload_n 1, 1) := by decide +kernel
theorem dX12_points_27 : decode cX12_points 27 = .ok (.iload_n 2, 1) := by decide +kernel
theorem dX12_points_28 : decode cX12_points 28 = .ok (.invokevirtual 265, 3) := by decide +kernel
theorem dX12_points_31 : decode cX12_points 31 = .ok (.goto 5, 3) := by decide +kernel
theorem dX12_points_34 : decode cX12_points 34 = .ok (.bipush (-3), 2) := by decide +kernel
theorem dX12_points_36 : decode cX12_points 36 = .ok (.ireturn, 1) := by decide +kernel
theorem dX12_totalOf_0 : decode cX12_totalOf 0 = .ok (.iconst 0, 1) := by decide +kernel
theorem dX12_totalOf_1 : decode cX12_totalOf 1 = .ok (.istore_n 2, 1) := by decide +kernel
theorem dX12_totalOf_2 : decode cX12_totalOf 2 = .ok (.iconst 0, 1) := by decide +kernel
theorem dX12_totalOf_3 : decode cX12_totalOf 3 = .ok (.istore_n 3, 1) := by decide +kernel
theorem dX12_totalOf_4 : decode cX12_totalOf 4 = .ok (.iload_n 3, 1) := by decide +kernel
theorem dX12_totalOf_5 : decode cX12_totalOf 5 = .ok (.aload_n 0, 1) := by decide +kernel
theorem dX12_totalOf_6 : decode cX12_totalOf 6 = .ok (.getfield 199, 3) := by decide +kernel
theorem dX12_totalOf_9 : decode cX12_totalOf 9 = .ok (.if_icmp .ge 18, 3) := by decide +kernel
theorem dX12_totalOf_12 : decode cX12_totalOf 12 = .ok (.iload_n 2, 1) := by decide +kernel
theorem dX12_totalOf_13 : decode cX12_totalOf 13 = .ok (.aload_n 0, 1) := by decide +kernel
theorem dX12_totalOf_14 : decode cX12_totalOf 14 = .ok (.iload_n 1, 1) := by decide +kernel
theorem dX12_totalOf_15 : decode cX12_totalOf 15 = .ok (.iload_n 3, 1) := by decide +kernel
theorem dX12_totalOf_16 : decode cX12_totalOf 16 = .ok (.invokevirtual 265, 3) := by decide +kernel
theorem dX12_totalOf_19 : decode cX12_totalOf 19 = .ok (.iadd, 1) := by decide +kernel
theorem dX12_totalOf_20 : decode cX12_totalOf 20 = .ok (.istore_n 2, 1) := by decide +kernel
theorem dX12_totalOf_21 : decode cX12_totalOf 21 = .ok (.iinc 3 1, 3) := by decide +kernel
theorem dX12_totalOf_24 : decode cX12_totalOf 24 = .ok (.goto (-20), 3) := by decide +kernel
theorem dX12_totalOf_27 : decode cX12_totalOf 27 = .ok (.iload_n 2, 1) := by decide +kernel
theorem dX12_totalOf_28 : decode cX12_totalOf 28 = .ok (.ireturn, 1) := by decide +kernel
theorem dX12_isBetter_0 : decode cX12_isBetter 0 = .ok (.aload_n 0, 1) := by decide +kernel
theorem dX12_isBetter_1 : decode cX12_isBetter 1 = .ok (.iload_n 1, 1) := by decide +kernel
theorem dX12_isBetter_2 : decode cX12_isBetter 2 = .ok (.invokevirtual 268, 3) := by decide +kernel
theorem dX12_isBetter_5 : decode cX12_isBetter 5 = .ok (.istore_n 3, 1) := by decide +kernel
theorem dX12_isBetter_6 : decode cX12_isBetter 6 = .ok (.aload_n 0, 1) := by decide +kernel
theorem dX12_isBetter_7 : decode cX12_isBetter 7 = .ok (.iload_n 2, 1) := by decide +kernel
theorem dX12_isBetter_8 : decode cX12_isBetter 8 = .ok (.invokevirtual 268, 3) := by decide +kernel
theorem dX12_isBetter_11 : decode cX12_isBetter 11 = .ok (.istore 4, 2) := by decide +kernel
theorem dX12_isBetter_13 : decode cX12_isBetter 13 = .ok (.iload_n 3, 1) := by decide +kernel
theorem dX12_isBetter_14 : decode cX12_isBetter 14 = .ok (.iload 4, 2) := by decide +kernel
theorem dX12_isBetter_16 : decode cX12_isBetter 16 = .ok (.if_icmp .eq 15, 3) := by decide +kernel
theorem dX12_isBetter_19 : decode cX12_isBetter 19 = .ok (.iload_n 3, 1) := by decide +kernel
theorem dX12_isBetter_20 : decode cX12_isBetter 20 = .ok (.iload 4, 2) := by decide +kernel
theorem dX12_isBetter_22 : decode cX12_isBetter 22 = .ok (.if_icmp .ge 7, 3) := by decide +kernel
theorem dX12_isBetter_25 : decode cX12_isBetter 25 = .ok (.iconst 1, 1) := by decide +kernel
theorem dX12_isBetter_26 : decode cX12_isBetter 26 = .ok (.goto 4, 3) := by decide +kernel
theorem dX12_isBetter_29 : decode cX12_isBetter 29 = .ok (.iconst 0, 1) := by decide +kernel
theorem dX12_isBetter_30 : decode cX12_isBetter 30 = .ok (.ireturn, 1) := by decide +kernel
theorem dX12_isBetter_31 : decode cX12_isBetter 31 = .ok (.iconst (-1), 1) := by decide +kernel
theorem dX12_isBetter_32 : decode cX12_isBetter 32 = .ok (.istore 5, 2) := by decide +kernel
theorem dX12_isBetter_34 : decode cX12_isBetter 34 = .ok (.iconst 0, 1) := by decide +kernel
theorem dX12_isBetter_35 : decode cX12_isBetter 35 = .ok (.istore 6, 2) := by decide +kernel
theorem dX12_isBetter_37 : decode cX12_isBetter 37 = .ok (.iload 6, 2) := by decide +kernel
theorem dX12_isBetter_39 : decode cX12_isBetter 39 = .ok (.aload_n 0, 1) := by decide +kernel
theorem dX12_isBetter_40 : decode cX12_isBetter 40 = .ok (.getfield 199, 3) := by decide +kernel
theorem dX12_isBetter_43 : decode cX12_isBetter 43 = .ok (.if_icmp .ge 69, 3) := by decide +kernel
theorem dX12_isBetter_46 : decode cX12_isBetter 46 = .ok (.aload_n 0, 1) := by decide +kernel
theorem dX12_isBetter_47 : decode cX12_isBetter 47 = .ok (.iload_n 1, 1) := by decide +kernel
theorem dX12_isBetter_48 : decode cX12_isBetter 48 = .ok (.iload 6, 2) := by decide +kernel
theorem dX12_isBetter_50 : decode cX12_isBetter 50 = .ok (.invokevirtual 265, 3) := by decide +kernel
theorem dX12_isBetter_53 : decode cX12_isBetter 53 = .ok (.aload_n 0, 1) := by decide +kernel
theorem dX12_isBetter_54 : decode cX12_isBetter 54 = .ok (.iload_n 2, 1) := by decide +kernel
theorem dX12_isBetter_55 : decode cX12_isBetter 55 = .ok (.iload 6, 2) := by decide +kernel
theorem dX12_isBetter_57 : decode cX12_isBetter 57 = .ok (.invokevirtual 265, 3) := by decide +kernel
theorem dX12_isBetter_60 : decode cX12_isBetter 60 = .ok (.if_icmp .eq 7, 3) := by decide +kernel
theorem dX12_isBetter_63 : decode cX12_isBetter 63 = .ok (.iconst 1, 1) := by decide +kernel
theorem dX12_isBetter_64 : decode cX12_isBetter 64 = .ok (.goto 4, 3) := by decide +kernel
theorem dX12_isBetter_67 : decode cX12_isBetter 67 = .ok (.iconst 0, 1) := by decide +kernel
theorem dX12_isBetter_68 : decode cX12_isBetter 68 = .ok (.istore 7, 2) := by decide +kernel
theorem dX12_isBetter_70 : decode cX12_isBetter 70 = .ok (.iload 7, 2) := by decide +kernel
theorem dX12_isBetter_72 : decode cX12_isBetter 72 = .ok (.ifCond .eq 30, 3) := by decide +kernel
theorem dX12_isBetter_75 : decode cX12_isBetter 75 = .ok (.iload 5, 2) := by decide +kernel
theorem dX12_isBetter_77 : decode cX12_isBetter 77 = .ok (.ifCond .lt 20, 3) := by decide +kernel
theorem dX12_isBetter_80 : decode cX12_isBetter 80 = .ok (.aload_n 0, 1) := by decide +kernel
theorem dX12_isBetter_81 : decode cX12_isBetter 81 = .ok (.getfield 68, 3) := by decide +kernel
theorem dX12_isBetter_84 : decode cX12_isBetter 84 = .ok (.iload 6, 2) := by decide +kernel
theorem dX12_isBetter_86 : decode cX12_isBetter 86 = .ok (.iaload, 1) := by decide +kernel
theorem dX12_isBetter_87 : decode cX12_isBetter 87 = .ok (.aload_n 0, 1) := by decide +kernel
theorem dX12_isBetter_88 : decode cX12_isBetter 88 = .ok (.getfield 68, 3) := by decide +kernel
theorem dX12_isBetter_91 : decode cX12_isBetter 91 = .ok (.iload 5, 2) := by decide +kernel
theorem dX12_isBetter_93 : decode cX12_isBetter 93 = .ok (.iaload, 1) := by decide +kernel
theorem dX12_isBetter_94 : decode cX12_isBetter 94 = .ok (.if_icmp .ge 8, 3) := by decide +kernel
theorem dX12_isBetter_97 : decode cX12_isBetter 97 = .ok (.iload 6, 2) := by decide +kernel
theorem dX12_isBetter_99 : decode cX12_isBetter 99 = .ok (.goto 5, 3) := by decide +kernel
theorem dX12_isBetter_102 : decode cX12_isBetter 102 = .ok (.iload 5, 2) := by decide +kernel
theorem dX12_isBetter_104 : decode cX12_isBetter 104 = .ok (.istore 5, 2) := by decide +kernel
theorem dX12_isBetter_106 : decode cX12_isBetter 106 = .ok (.iinc 6 1, 3) := by decide +kernel
theorem dX12_isBetter_109 : decode cX12_isBetter 109 = .ok (.goto (-72), 3) := by decide +kernel
theorem dX12_isBetter_112 : decode cX12_isBetter 112 = .ok (.iload 5, 2) := by decide +kernel
theorem dX12_isBetter_114 : decode cX12_isBetter 114 = .ok (.ifCond .ge 16, 3) := by decide +kernel
theorem dX12_isBetter_117 : decode cX12_isBetter 117 = .ok (.iload_n 1, 1) := by decide +kernel
theorem dX12_isBetter_118 : decode cX12_isBetter 118 = .ok (.iload_n 2, 1) := by decide +kernel
theorem dX12_isBetter_119 : decode cX12_isBetter 119 = .ok (.if_icmp .ge 7, 3) := by decide +kernel
theorem dX12_isBetter_122 : decode cX12_isBetter 122 = .ok (.iconst 1, 1) := by decide +kernel
theorem dX12_isBetter_123 : decode cX12_isBetter 123 = .ok (.goto 29, 3) := by decide +kernel
theorem dX12_isBetter_126 : decode cX12_isBetter 126 = .ok (.iconst 0, 1) := by decide +kernel
theorem dX12_isBetter_127 : decode cX12_isBetter 127 = .ok (.goto 25, 3) := by decide +kernel
theorem dX12_isBetter_130 : decode cX12_isBetter 130 = .ok (.aload_n 0, 1) := by decide +kernel
theorem dX12_isBetter_131 : decode cX12_isBetter 131 = .ok (.iload_n 1, 1) := by decide +kernel
theorem dX12_isBetter_132 : decode cX12_isBetter 132 = .ok (.iload 5, 2) := by decide +kernel
theorem dX12_isBetter_134 : decode cX12_isBetter 134 = .ok (.invokevirtual 265, 3) := by decide +kernel
theorem dX12_isBetter_137 : decode cX12_isBetter 137 = .ok (.aload_n 0, 1) := by decide +kernel
theorem dX12_isBetter_138 : decode cX12_isBetter 138 = .ok (.iload_n 2, 1) := by decide +kernel
theorem dX12_isBetter_139 : decode cX12_isBetter 139 = .ok (.iload 5, 2) := by decide +kernel
theorem dX12_isBetter_141 : decode cX12_isBetter 141 = .ok (.invokevirtual 265, 3) := by decide +kernel
theorem dX12_isBetter_144 : decode cX12_isBetter 144 = .ok (.if_icmp .ge 7, 3) := by decide +kernel
theorem dX12_isBetter_147 : decode cX12_isBetter 147 = .ok (.iconst 1, 1) := by decide +kernel
theorem dX12_isBetter_148 : decode cX12_isBetter 148 = .ok (.goto 4, 3) := by decide +kernel
theorem dX12_isBetter_151 : decode cX12_isBetter 151 = .ok (.iconst 0, 1) := by decide +kernel
theorem dX12_isBetter_152 : decode cX12_isBetter 152 = .ok (.ireturn, 1) := by decide +kernel
theorem dX12_result_0 : decode cX12_result 0 = .ok (.aload_n 0, 1) := by decide +kernel
theorem dX12_result_1 : decode cX12_result 1 = .ok (.iload_n 1, 1) := by decide +kernel
theorem dX12_result_2 : decode cX12_result 2 = .ok (.invokevirtual 243, 3) := by decide +kernel
theorem dX12_result_5 : decode cX12_result 5 = .ok (.ifCond .eq 5, 3) := by decide +kernel
theorem dX12_result_8 : decode cX12_result 8 = .ok (.iconst (-1), 1) := by decide +kernel
theorem dX12_result_9 : decode cX12_result 9 = .ok (.ireturn, 1) := by decide +kernel
theorem dX12_result_10 : decode cX12_result 10 = .ok (.iload_n 2, 1) := by decide +kernel
theorem dX12_result_11 : decode cX12_result 11 = .ok (.i2l, 1) := by decide +kernel
theorem dX12_result_12 : decode cX12_result 12 = .ok (.lconst 0, 1) := by decide +kernel
theorem dX12_result_13 : decode cX12_result 13 = .ok (.ldc2_w 135, 3) := by decide +kernel
theorem dX12_result_16 : decode cX12_result 16 = .ok (.invokestatic 111, 3) := by decide +kernel
theorem dX12_result_19 : decode cX12_result 19 = .ok (.ifCond .ne 6, 3) := by decide +kernel
theorem dX12_result_22 : decode cX12_result 22 = .ok (.bipush (-2), 2) := by decide +kernel
theorem dX12_result_24 : decode cX12_result 24 = .ok (.ireturn, 1) := by decide +kernel
theorem dX12_result_25 : decode cX12_result 25 = .ok (.aload_n 0, 1) := by decide +kernel
theorem dX12_result_26 : decode cX12_result 26 = .ok (.invokevirtual 220, 3) := by decide +kernel
theorem dX12_result_29 : decode cX12_result 29 = .ok (.ifCond .ne 6, 3) := by decide +kernel
theorem dX12_result_32 : decode cX12_result 32 = .ok (.bipush (-3), 2) := by decide +kernel
theorem dX12_result_34 : decode cX12_result 34 = .ok (.ireturn, 1) := by decide +kernel
theorem dX12_result_35 : decode cX12_result 35 = .ok (.iload_n 2, 1) := by decide +kernel
theorem dX12_result_36 : decode cX12_result 36 = .ok (.ifCond .ne 9, 3) := by decide +kernel
theorem dX12_result_39 : decode cX12_result 39 = .ok (.aload_n 0, 1) := by decide +kernel
theorem dX12_result_40 : decode cX12_result 40 = .ok (.iload_n 1, 1) := by decide +kernel
theorem dX12_result_41 : decode cX12_result 41 = .ok (.invokevirtual 268, 3) := by decide +kernel
theorem dX12_result_44 : decode cX12_result 44 = .ok (.ireturn, 1) := by decide +kernel
theorem dX12_result_45 : decode cX12_result 45 = .ok (.iconst 0, 1) := by decide +kernel
theorem dX12_result_46 : decode cX12_result 46 = .ok (.istore_n 3, 1) := by decide +kernel
theorem dX12_result_47 : decode cX12_result 47 = .ok (.iload_n 2, 1) := by decide +kernel
theorem dX12_result_48 : decode cX12_result 48 = .ok (.iconst 1, 1) := by decide +kernel
theorem dX12_result_49 : decode cX12_result 49 = .ok (.if_icmp .ne 49, 3) := by decide +kernel
theorem dX12_result_52 : decode cX12_result 52 = .ok (.iconst 0, 1) := by decide +kernel
theorem dX12_result_53 : decode cX12_result 53 = .ok (.istore 4, 2) := by decide +kernel
theorem dX12_result_55 : decode cX12_result 55 = .ok (.iload 4, 2) := by decide +kernel
theorem dX12_result_57 : decode cX12_result 57 = .ok (.aload_n 0, 1) := by decide +kernel
theorem dX12_result_58 : decode cX12_result 58 = .ok (.getfield 238, 3) := by decide +kernel
theorem dX12_result_61 : decode cX12_result 61 = .ok (.if_icmp .ge 33, 3) := by decide +kernel
theorem dX12_result_64 : decode cX12_result 64 = .ok (.iload_n 3, 1) := by decide +kernel
theorem dX12_result_65 : decode cX12_result 65 = .ok (.iload 4, 2) := by decide +kernel
theorem dX12_result_67 : decode cX12_result 67 = .ok (.iload_n 1, 1) := by decide +kernel
theorem dX12_result_68 : decode cX12_result 68 = .ok (.if_icmp .eq 17, 3) := by decide +kernel
theorem dX12_result_71 : decode cX12_result 71 = .ok (.aload_n 0, 1) := by decide +kernel
theorem dX12_result_72 : decode cX12_result 72 = .ok (.iload 4, 2) := by decide +kernel
theorem dX12_result_74 : decode cX12_result 74 = .ok (.iload_n 1, 1) := by decide +kernel
theorem dX12_result_75 : decode cX12_result 75 = .ok (.invokevirtual 271, 3) := by decide +kernel
theorem dX12_result_78 : decode cX12_result 78 = .ok (.ifCond .eq 7, 3) := by decide +kernel
theorem dX12_result_81 : decode cX12_result 81 = .ok (.iconst 1, 1) := by decide +kernel
theorem dX12_result_82 : decode cX12_result 82 = .ok (.goto 4, 3) := by decide +kernel
theorem dX12_result_85 : decode cX12_result 85 = .ok (.iconst 0, 1) := by decide +kernel
theorem dX12_result_86 : decode cX12_result 86 = .ok (.iadd, 1) := by decide +kernel
theorem dX12_result_87 : decode cX12_result 87 = .ok (.istore_n 3, 1) := by decide +kernel
theorem dX12_result_88 : decode cX12_result 88 = .ok (.iinc 4 1, 3) := by decide +kernel
theorem dX12_result_91 : decode cX12_result 91 = .ok (.goto (-36), 3) := by decide +kernel
theorem dX12_result_94 : decode cX12_result 94 = .ok (.iload_n 3, 1) := by decide +kernel
theorem dX12_result_95 : decode cX12_result 95 = .ok (.iconst 1, 1) := by decide +kernel
theorem dX12_result_96 : decode cX12_result 96 = .ok (.iadd, 1) := by decide +kernel
theorem dX12_result_97 : decode cX12_result 97 = .ok (.ireturn, 1) := by decide +kernel
theorem dX12_result_98 : decode cX12_result 98 = .ok (.iconst 0, 1) := by decide +kernel
theorem dX12_result_99 : decode cX12_result 99 = .ok (.istore 4, 2) := by decide +kernel
theorem dX12_result_101 : decode cX12_result 101 = .ok (.iload 4, 2) := by decide +kernel
theorem dX12_result_103 : decode cX12_result 103 = .ok (.aload_n 0, 1) := by decide +kernel
theorem dX12_result_104 : decode cX12_result 104 = .ok (.getfield 199, 3) := by decide +kernel
theorem dX12_result_107 : decode cX12_result 107 = .ok (.if_icmp .ge 77, 3) := by decide +kernel
theorem dX12_result_110 : decode cX12_result 110 = .ok (.aload_n 0, 1) := by decide +kernel
theorem dX12_result_111 : decode cX12_result 111 = .ok (.getfield 86, 3) := by decide +kernel
theorem dX12_result_114 : decode cX12_result 114 = .ok (.bipush 8, 2) := by decide +kernel
theorem dX12_result_116 : decode cX12_result 116 = .ok (.iload_n 1, 1) := by decide +kernel
theorem dX12_result_117 : decode cX12_result 117 = .ok (.imul, 1) := by decide +kernel
theorem dX12_result_118 : decode cX12_result 118 = .ok (.iload 4, 2) := by decide +kernel
theorem dX12_result_120 : decode cX12_result 120 = .ok (.iadd, 1) := by decide +kernel
theorem dX12_result_121 : decode cX12_result 121 = .ok (.iaload, 1) := by decide +kernel
theorem dX12_result_122 : decode cX12_result 122 = .ok (.ifCond .le 7, 3) := by decide +kernel
theorem dX12_result_125 : decode cX12_result 125 = .ok (.iconst 1, 1) := by decide +kernel
theorem dX12_result_126 : decode cX12_result 126 = .ok (.goto 4, 3) := by decide +kernel
theorem dX12_result_129 : decode cX12_result 129 = .ok (.iconst 0, 1) := by decide +kernel
theorem dX12_result_130 : decode cX12_result 130 = .ok (.istore 5, 2) := by decide +kernel
theorem dX12_result_132 : decode cX12_result 132 = .ok (.iload_n 3, 1) := by decide +kernel
theorem dX12_result_133 : decode cX12_result 133 = .ok (.aload_n 0, 1) := by decide +kernel
theorem dX12_result_134 : decode cX12_result 134 = .ok (.getfield 71, 3) := by decide +kernel
theorem dX12_result_137 : decode cX12_result 137 = .ok (.iload 4, 2) := by decide +kernel
theorem dX12_result_139 : decode cX12_result 139 = .ok (.baload, 1) := by decide +kernel
theorem dX12_result_140 : decode cX12_result 140 = .ok (.ifCond .ne 35, 3) := by decide +kernel
theorem dX12_result_143 : decode cX12_result 143 = .ok (.iload_n 2, 1) := by decide +kernel
theorem dX12_result_144 : decode cX12_result 144 = .ok (.iconst 2, 1) := by decide +kernel
theorem dX12_result_145 : decode cX12_result 145 = .ok (.if_icmp .ne 11, 3) := by decide +kernel
theorem dX12_result_148 : decode cX12_result 148 = .ok (.iload 5, 2) := by decide +kernel
theorem dX12_result_150 : decode cX12_result 150 = .ok (.ifCond .ne 25, 3) := by decide +kernel
theorem dX12_result_153 : decode cX12_result 153 = .ok (.goto 18, 3) := by decide +kernel
theorem dX12_result_156 : decode cX12_result 156 = .ok (.iload 5, 2) := by decide +kernel
theorem dX12_result_158 : decode cX12_result 158 = .ok (.ifCond .eq 17, 3) := by decide +kernel
theorem dX12_result_161 : decode cX12_result 161 = .ok (.aload_n 0, 1) := by decide +kernel
theorem dX12_result_162 : decode cX12_result 162 = .ok (.iload_n 1, 1) := by decide +kernel
theorem dX12_result_163 : decode cX12_result 163 = .ok (.iload 4, 2) := by decide +kernel
theorem dX12_result_165 : decode cX12_result 165 = .ok (.invokevirtual 255, 3) := by decide +kernel
theorem dX12_result_168 : decode cX12_result 168 = .ok (.ifCond .eq 7, 3) := by decide +kernel
theorem dX12_result_171 : decode cX12_result 171 = .ok (.iconst 1, 1) := by decide +kernel
theorem dX12_result_172 : decode cX12_result 172 = .ok (.goto 4, 3) := by decide +kernel
theorem dX12_result_175 : decode cX12_result 175 = .ok (.iconst 0, 1) := by decide +kernel
theorem dX12_result_176 : decode cX12_result 176 = .ok (.iadd, 1) := by decide +kernel
theorem dX12_result_177 : decode cX12_result 177 = .ok (.istore_n 3, 1) := by decide +kernel
theorem dX12_result_178 : decode cX12_result 178 = .ok (.iinc 4 1, 3) := by decide +kernel
theorem dX12_result_181 : decode cX12_result 181 = .ok (.goto (-80), 3) := by decide +kernel
theorem dX12_result_184 : decode cX12_result 184 = .ok (.iload_n 3, 1) := by decide +kernel
theorem dX12_result_185 : decode cX12_result 185 = .ok (.ireturn, 1) := by decide +kernel
theorem dX12_traced_0 : decode cX12_traced 0 = .ok (.aload_n 0, 1) := by decide +kernel
theorem dX12_traced_1 : decode cX12_traced 1 = .ok (.bipush 31, 2) := by decide +kernel
theorem dX12_traced_3 : decode cX12_traced 3 = .ok (.aload_n 0, 1) := by decide +kernel
theorem dX12_traced_4 : decode cX12_traced 4 = .ok (.getfield 274, 3) := by decide +kernel
theorem dX12_traced_7 : decode cX12_traced 7 = .ok (.imul, 1) := by decide +kernel
theorem dX12_traced_8 : decode cX12_traced 8 = .ok (.iload_n 1, 1) := by decide +kernel
theorem dX12_traced_9 : decode cX12_traced 9 = .ok (.iadd, 1) := by decide +kernel
theorem dX12_traced_10 : decode cX12_traced 10 = .ok (.putfield 274, 3) := by decide +kernel
theorem dX12_traced_13 : decode cX12_traced 13 = .ok (.return_, 1) := by decide +kernel
theorem dX12_tell_0 : decode cX12_tell 0 = .ok (.aload_n 0, 1) := by decide +kernel
theorem dX12_tell_1 : decode cX12_tell 1 = .ok (.iload_n 1, 1) := by decide +kernel
theorem dX12_tell_2 : decode cX12_tell 2 = .ok (.invokevirtual 125, 3) := by decide +kernel
theorem dX12_tell_5 : decode cX12_tell 5 = .ok (.ifCond .eq 5, 3) := by decide +kernel
theorem dX12_tell_8 : decode cX12_tell 8 = .ok (.iconst (-1), 1) := by decide +kernel
theorem dX12_tell_9 : decode cX12_tell 9 = .ok (.ireturn, 1) := by decide +kernel
theorem dX12_tell_10 : decode cX12_tell 10 = .ok (.aload_n 0, 1) := by decide +kernel
theorem dX12_tell_11 : decode cX12_tell 11 = .ok (.getfield 19, 3) := by decide +kernel
theorem dX12_tell_14 : decode cX12_tell 14 = .ok (.iload_n 1, 1) := by decide +kernel
theorem dX12_tell_15 : decode cX12_tell 15 = .ok (.iaload, 1) := by decide +kernel
theorem dX12_tell_16 : decode cX12_tell 16 = .ok (.ifCond .le 22, 3) := by decide +kernel
theorem dX12_tell_19 : decode cX12_tell 19 = .ok (.aload_n 0, 1) := by decide +kernel
theorem dX12_tell_20 : decode cX12_tell 20 = .ok (.aload_n 0, 1) := by decide +kernel
theorem dX12_tell_21 : decode cX12_tell 21 = .ok (.getfield 19, 3) := by decide +kernel
theorem dX12_tell_24 : decode cX12_tell 24 = .ok (.iload_n 1, 1) := by decide +kernel
theorem dX12_tell_25 : decode cX12_tell 25 = .ok (.iaload, 1) := by decide +kernel
theorem dX12_tell_26 : decode cX12_tell 26 = .ok (.iconst 1, 1) := by decide +kernel
theorem dX12_tell_27 : decode cX12_tell 27 = .ok (.if_icmp .ne 7, 3) := by decide +kernel
theorem dX12_tell_30 : decode cX12_tell 30 = .ok (.iconst 2, 1) := by decide +kernel
theorem dX12_tell_31 : decode cX12_tell 31 = .ok (.goto 4, 3) := by decide +kernel
theorem dX12_tell_34 : decode cX12_tell 34 = .ok (.iconst 3, 1) := by decide +kernel
theorem dX12_tell_35 : decode cX12_tell 35 = .ok (.invokevirtual 277, 3) := by decide +kernel
theorem dX12_tell_38 : decode cX12_tell 38 = .ok (.aload_n 0, 1) := by decide +kernel
theorem dX12_tell_39 : decode cX12_tell 39 = .ok (.iconst 1, 1) := by decide +kernel
theorem dX12_tell_40 : decode cX12_tell 40 = .ok (.invokevirtual 277, 3) := by decide +kernel
theorem dX12_tell_43 : decode cX12_tell 43 = .ok (.aload_n 0, 1) := by decide +kernel
theorem dX12_tell_44 : decode cX12_tell 44 = .ok (.getfield 19, 3) := by decide +kernel
theorem dX12_tell_47 : decode cX12_tell 47 = .ok (.iload_n 1, 1) := by decide +kernel
theorem dX12_tell_48 : decode cX12_tell 48 = .ok (.iaload, 1) := by decide +kernel
theorem dX12_tell_49 : decode cX12_tell 49 = .ok (.iconst 1, 1) := by decide +kernel
theorem dX12_tell_50 : decode cX12_tell 50 = .ok (.if_icmp .ne 14, 3) := by decide +kernel
theorem dX12_tell_53 : decode cX12_tell 53 = .ok (.iconst 1, 1) := by decide +kernel
theorem dX12_tell_54 : decode cX12_tell 54 = .ok (.aload_n 0, 1) := by decide +kernel
theorem dX12_tell_55 : decode cX12_tell 55 = .ok (.getfield 16, 3) := by decide +kernel
theorem dX12_tell_58 : decode cX12_tell 58 = .ok (.iload_n 1, 1) := by decide +kernel
theorem dX12_tell_59 : decode cX12_tell 59 = .ok (.iaload, 1) := by decide +kernel
theorem dX12_tell_60 : decode cX12_tell 60 = .ok (.iadd, 1) := by decide +kernel
theorem dX12_tell_61 : decode cX12_tell 61 = .ok (.goto 28, 3) := by decide +kernel
theorem dX12_tell_64 : decode cX12_tell 64 = .ok (.aload_n 0, 1) := by decide +kernel
theorem dX12_tell_65 : decode cX12_tell 65 = .ok (.getfield 26, 3) := by decide +kernel
theorem dX12_tell_68 : decode cX12_tell 68 = .ok (.iload_n 1, 1) := by decide +kernel
theorem dX12_tell_69 : decode cX12_tell 69 = .ok (.baload, 1) := by decide +kernel
theorem dX12_tell_70 : decode cX12_tell 70 = .ok (.ifCond .eq 13, 3) := by decide +kernel
theorem dX12_tell_73 : decode cX12_tell 73 = .ok (.aload_n 0, 1) := by decide +kernel
theorem dX12_tell_74 : decode cX12_tell 74 = .ok (.getfield 16, 3) := by decide +kernel
theorem dX12_tell_77 : decode cX12_tell 77 = .ok (.iload_n 1, 1) := by decide +kernel
theorem dX12_tell_78 : decode cX12_tell 78 = .ok (.iaload, 1) := by decide +kernel
theorem dX12_tell_79 : decode cX12_tell 79 = .ok (.ineg, 1) := by decide +kernel
theorem dX12_tell_80 : decode cX12_tell 80 = .ok (.goto 9, 3) := by decide +kernel
theorem dX12_tell_83 : decode cX12_tell 83 = .ok (.aload_n 0, 1) := by decide +kernel
theorem dX12_tell_84 : decode cX12_tell 84 = .ok (.getfield 16, 3) := by decide +kernel
theorem dX12_tell_87 : decode cX12_tell 87 = .ok (.iload_n 1, 1) := by decide +kernel
theorem dX12_tell_88 : decode cX12_tell 88 = .ok (.iaload, 1) := by decide +kernel
theorem dX12_tell_89 : decode cX12_tell 89 = .ok (.ireturn, 1) := by decide +kernel
theorem dX12_greet_0 : decode cX12_greet 0 = .ok (.aload_n 0, 1) := by decide +kernel
theorem dX12_greet_1 : decode cX12_greet 1 = .ok (.iload_n 1, 1) := by decide +kernel
theorem dX12_greet_2 : decode cX12_greet 2 = .ok (.invokevirtual 243, 3) := by decide +kernel
theorem dX12_greet_5 : decode cX12_greet 5 = .ok (.ifCond .eq 5, 3) := by decide +kernel
theorem dX12_greet_8 : decode cX12_greet 8 = .ok (.iconst (-1), 1) := by decide +kernel
theorem dX12_greet_9 : decode cX12_greet 9 = .ok (.ireturn, 1) := by decide +kernel
theorem dX12_greet_10 : decode cX12_greet 10 = .ok (.aload_n 0, 1) := by decide +kernel
theorem dX12_greet_11 : decode cX12_greet 11 = .ok (.getfield 83, 3) := by decide +kernel
theorem dX12_greet_14 : decode cX12_greet 14 = .ok (.iload_n 1, 1) := by decide +kernel
theorem dX12_greet_15 : decode cX12_greet 15 = .ok (.iaload, 1) := by decide +kernel
theorem dX12_greet_16 : decode cX12_greet 16 = .ok (.ifCond .ne 13, 3) := by decide +kernel
theorem dX12_greet_19 : decode cX12_greet 19 = .ok (.aload_n 0, 1) := by decide +kernel
theorem dX12_greet_20 : decode cX12_greet 20 = .ok (.iconst 4, 1) := by decide +kernel
theorem dX12_greet_21 : decode cX12_greet 21 = .ok (.invokevirtual 277, 3) := by decide +kernel
theorem dX12_greet_24 : decode cX12_greet 24 = .ok (.bipush 10, 2) := by decide +kernel
theorem dX12_greet_26 : decode cX12_greet 26 = .ok (.iload_n 1, 1) := by decide +kernel
theorem dX12_greet_27 : decode cX12_greet 27 = .ok (.imul, 1) := by decide +kernel
theorem dX12_greet_28 : decode cX12_greet 28 = .ok (.ireturn, 1) := by decide +kernel
theorem dX12_greet_29 : decode cX12_greet 29 = .ok (.aload_n 0, 1) := by decide +kernel
theorem dX12_greet_30 : decode cX12_greet 30 = .ok (.getfield 83, 3) := by decide +kernel
theorem dX12_greet_33 : decode cX12_greet 33 = .ok (.iload_n 1, 1) := by decide +kernel
theorem dX12_greet_34 : decode cX12_greet 34 = .ok (.iaload, 1) := by decide +kernel
theorem dX12_greet_35 : decode cX12_greet 35 = .ok (.iconst 2, 1) := by decide +kernel
theorem dX12_greet_36 : decode cX12_greet 36 = .ok (.if_icmp .ne 9, 3) := by decide +kernel
theorem dX12_greet_39 : decode cX12_greet 39 = .ok (.aload_n 0, 1) := by decide +kernel
theorem dX12_greet_40 : decode cX12_greet 40 = .ok (.bipush 6, 2) := by decide +kernel
theorem dX12_greet_42 : decode cX12_greet 42 = .ok (.invokevirtual 277, 3) := by decide +kernel
theorem dX12_greet_45 : decode cX12_greet 45 = .ok (.aload_n 0, 1) := by decide +kernel
theorem dX12_greet_46 : decode cX12_greet 46 = .ok (.iconst 5, 1) := by decide +kernel
theorem dX12_greet_47 : decode cX12_greet 47 = .ok (.invokevirtual 277, 3) := by decide +kernel
theorem dX12_greet_50 : decode cX12_greet 50 = .ok (.aload_n 0, 1) := by decide +kernel
theorem dX12_greet_51 : decode cX12_greet 51 = .ok (.getfield 83, 3) := by decide +kernel
theorem dX12_greet_54 : decode cX12_greet 54 = .ok (.iload_n 1, 1) := by decide +kernel
theorem dX12_greet_55 : decode cX12_greet 55 = .ok (.iaload, 1) := by decide +kernel
theorem dX12_greet_56 : decode cX12_greet 56 = .ok (.iconst 2, 1) := by decide +kernel
theorem dX12_greet_57 : decode cX12_greet 57 = .ok (.if_icmp .ne 8, 3) := by decide +kernel
theorem dX12_greet_60 : decode cX12_greet 60 = .ok (.bipush 8, 2) := by decide +kernel
theorem dX12_greet_62 : decode cX12_greet 62 = .ok (.goto 5, 3) := by decide +kernel
theorem dX12_greet_65 : decode cX12_greet 65 = .ok (.bipush 7, 2) := by decide +kernel
theorem dX12_greet_67 : decode cX12_greet 67 = .ok (.ireturn, 1) := by decide +kernel
theorem dX12_as_0 : decode cX12_as 0 = .ok (.aload_n 0, 1) := by decide +kernel
theorem dX12_as_1 : decode cX12_as 1 = .ok (.iload_n 1, 1) := by decide +kernel
theorem dX12_as_2 : decode cX12_as 2 = .ok (.invokevirtual 243, 3) := by decide +kernel
theorem dX12_as_5 : decode cX12_as 5 = .ok (.ifCond .eq 9, 3) := by decide +kernel
theorem dX12_as_8 : decode cX12_as 8 = .ok (.aload_n 0, 1) := by decide +kernel
theorem dX12_as_9 : decode cX12_as 9 = .ok (.iconst (-1), 1) := by decide +kernel
theorem dX12_as_10 : decode cX12_as 10 = .ok (.invokevirtual 128, 3) := by decide +kernel
theorem dX12_as_13 : decode cX12_as 13 = .ok (.ireturn, 1) := by decide +kernel
theorem dX12_as_14 : decode cX12_as 14 = .ok (.iload_n 2, 1) := by decide +kernel
theorem dX12_as_15 : decode cX12_as 15 = .ok (.i2l, 1) := by decide +kernel
theorem dX12_as_16 : decode cX12_as 16 = .ok (.lconst 0, 1) := by decide +kernel
theorem dX12_as_17 : decode cX12_as 17 = .ok (.ldc2_w 123, 3) := by decide +kernel
theorem dX12_as_20 : decode cX12_as 20 = .ok (.invokestatic 111, 3) := by decide +kernel
theorem dX12_as_23 : decode cX12_as 23 = .ok (.ifCond .ne 10, 3) := by decide +kernel
theorem dX12_as_26 : decode cX12_as 26 = .ok (.aload_n 0, 1) := by decide +kernel
theorem dX12_as_27 : decode cX12_as 27 = .ok (.bipush (-2), 2) := by decide +kernel
theorem dX12_as_29 : decode cX12_as 29 = .ok (.invokevirtual 128, 3) := by decide +kernel
theorem dX12_as_32 : decode cX12_as 32 = .ok (.ireturn, 1) := by decide +kernel
theorem dX12_as_33 : decode cX12_as 33 = .ok (.aload_n 0, 1) := by decide +kernel
theorem dX12_as_34 : decode cX12_as 34 = .ok (.getfield 83, 3) := by decide +kernel
theorem dX12_as_37 : decode cX12_as 37 = .ok (.iload_n 1, 1) := by decide +kernel
theorem dX12_as_38 : decode cX12_as 38 = .ok (.iaload, 1) := by decide +kernel
theorem dX12_as_39 : decode cX12_as 39 = .ok (.iload_n 2, 1) := by decide +kernel
theorem dX12_as_40 : decode cX12_as 40 = .ok (.if_icmp .lt 11, 3) := by decide +kernel
theorem dX12_as_43 : decode cX12_as 43 = .ok (.aload_n 0, 1) := by decide +kernel
theorem dX12_as_44 : decode cX12_as 44 = .ok (.iconst 1, 1) := by decide +kernel
theorem dX12_as_45 : decode cX12_as 45 = .ok (.invokevirtual 128, 3) := by decide +kernel
theorem dX12_as_48 : decode cX12_as 48 = .ok (.goto 8, 3) := by decide +kernel
theorem dX12_as_51 : decode cX12_as 51 = .ok (.aload_n 0, 1) := by decide +kernel
theorem dX12_as_52 : decode cX12_as 52 = .ok (.iconst 2, 1) := by decide +kernel
theorem dX12_as_53 : decode cX12_as 53 = .ok (.invokevirtual 132, 3) := by decide +kernel
theorem dX12_as_56 : decode cX12_as 56 = .ok (.ireturn, 1) := by decide +kernel
theorem dX12_trace_0 : decode cX12_trace 0 = .ok (.aload_n 0, 1) := by decide +kernel
theorem dX12_trace_1 : decode cX12_trace 1 = .ok (.getfield 274, 3) := by decide +kernel
theorem dX12_trace_4 : decode cX12_trace 4 = .ok (.ireturn, 1) := by decide +kernel
theorem dX12_fault_0 : decode cX12_fault 0 = .ok (.aload_n 0, 1) := by decide +kernel
theorem dX12_fault_1 : decode cX12_fault 1 = .ok (.getfield 101, 3) := by decide +kernel
theorem dX12_fault_4 : decode cX12_fault 4 = .ok (.ireturn, 1) := by decide +kernel
theorem dX12_told_0 : decode cX12_told 0 = .ok (.iload_n 1, 1) := by decide +kernel
theorem dX12_told_1 : decode cX12_told 1 = .ok (.tableswitch 98 0 7 #[47, 52, 57, 73, 78, 83, 88, 93], 47) := by decide +kernel
theorem dX12_told_48 : decode cX12_told 48 = .ok (.aload_n 0, 1) := by decide +kernel
theorem dX12_told_49 : decode cX12_told 49 = .ok (.getfield 108, 3) := by decide +kernel
theorem dX12_told_52 : decode cX12_told 52 = .ok (.ireturn, 1) := by decide +kernel
theorem dX12_told_53 : decode cX12_told 53 = .ok (.aload_n 0, 1) := by decide +kernel
theorem dX12_told_54 : decode cX12_told 54 = .ok (.getfield 95, 3) := by decide +kernel
theorem dX12_told_57 : decode cX12_told 57 = .ok (.ireturn, 1) := by decide +kernel
theorem dX12_told_58 : decode cX12_told 58 = .ok (.aload_n 0, 1) := by decide +kernel
theorem dX12_told_59 : decode cX12_told 59 = .ok (.getfield 95, 3) := by decide +kernel
theorem dX12_told_62 : decode cX12_told 62 = .ok (.ifCond .ne 7, 3) := by decide +kernel
theorem dX12_told_65 : decode cX12_told 65 = .ok (.iconst 0, 1) := by decide +kernel
theorem dX12_told_66 : decode cX12_told 66 = .ok (.goto 7, 3) := by decide +kernel
theorem dX12_told_69 : decode cX12_told 69 = .ok (.aload_n 0, 1) := by decide +kernel
theorem dX12_told_70 : decode cX12_told 70 = .ok (.getfield 193, 3) := by decide +kernel
theorem dX12_told_73 : decode cX12_told 73 = .ok (.ireturn, 1) := by decide +kernel
theorem dX12_told_74 : decode cX12_told 74 = .ok (.aload_n 0, 1) := by decide +kernel
theorem dX12_told_75 : decode cX12_told 75 = .ok (.getfield 196, 3) := by decide +kernel
theorem dX12_told_78 : decode cX12_told 78 = .ok (.ireturn, 1) := by decide +kernel
theorem dX12_told_79 : decode cX12_told 79 = .ok (.aload_n 0, 1) := by decide +kernel
theorem dX12_told_80 : decode cX12_told 80 = .ok (.getfield 199, 3) := by decide +kernel
theorem dX12_told_83 : decode cX12_told 83 = .ok (.ireturn, 1) := by decide +kernel
theorem dX12_told_84 : decode cX12_told 84 = .ok (.aload_n 0, 1) := by decide +kernel
theorem dX12_told_85 : decode cX12_told 85 = .ok (.getfield 238, 3) := by decide +kernel
theorem dX12_told_88 : decode cX12_told 88 = .ok (.ireturn, 1) := by decide +kernel
theorem dX12_told_89 : decode cX12_told 89 = .ok (.aload_n 0, 1) := by decide +kernel
theorem dX12_told_90 : decode cX12_told 90 = .ok (.getfield 161, 3) := by decide +kernel
theorem dX12_told_93 : decode cX12_told 93 = .ok (.ireturn, 1) := by decide +kernel
theorem dX12_told_94 : decode cX12_told 94 = .ok (.aload_n 0, 1) := by decide +kernel
theorem dX12_told_95 : decode cX12_told 95 = .ok (.getfield 176, 3) := by decide +kernel
theorem dX12_told_98 : decode cX12_told 98 = .ok (.ireturn, 1) := by decide +kernel
theorem dX12_told_99 : decode cX12_told 99 = .ok (.bipush (-2), 2) := by decide +kernel
theorem dX12_told_101 : decode cX12_told 101 = .ok (.ireturn, 1) := by decide +kernel
theorem dJ9_abs_067f4_0 : decode cJ9_abs_067f4 0 = .ok (.lload_n 0, 1) := by decide +kernel
theorem dJ9_abs_067f4_1 : decode cJ9_abs_067f4 1 = .ok (.lconst 0, 1) := by decide +kernel
theorem dJ9_abs_067f4_2 : decode cJ9_abs_067f4 2 = .ok (.lcmp, 1) := by decide +kernel
theorem dJ9_abs_067f4_3 : decode cJ9_abs_067f4 3 = .ok (.ifCond .ge 8, 3) := by decide +kernel
theorem dJ9_abs_067f4_6 : decode cJ9_abs_067f4 6 = .ok (.lload_n 0, 1) := by decide +kernel
theorem dJ9_abs_067f4_7 : decode cJ9_abs_067f4 7 = .ok (.lneg, 1) := by decide +kernel
theorem dJ9_abs_067f4_8 : decode cJ9_abs_067f4 8 = .ok (.goto 4, 3) := by decide +kernel
theorem dJ9_abs_067f4_11 : decode cJ9_abs_067f4 11 = .ok (.lload_n 0, 1) := by decide +kernel
theorem dJ9_abs_067f4_12 : decode cJ9_abs_067f4 12 = .ok (.lreturn, 1) := by decide +kernel
theorem dJ9_max_f86c9_0 : decode cJ9_max_f86c9 0 = .ok (.lload_n 0, 1) := by decide +kernel
theorem dJ9_max_f86c9_1 : decode cJ9_max_f86c9 1 = .ok (.lload_n 2, 1) := by decide +kernel
theorem dJ9_max_f86c9_2 : decode cJ9_max_f86c9 2 = .ok (.lcmp, 1) := by decide +kernel
theorem dJ9_max_f86c9_3 : decode cJ9_max_f86c9 3 = .ok (.ifCond .lt 7, 3) := by decide +kernel
theorem dJ9_max_f86c9_6 : decode cJ9_max_f86c9 6 = .ok (.lload_n 0, 1) := by decide +kernel
theorem dJ9_max_f86c9_7 : decode cJ9_max_f86c9 7 = .ok (.goto 4, 3) := by decide +kernel
theorem dJ9_max_f86c9_10 : decode cJ9_max_f86c9 10 = .ok (.lload_n 2, 1) := by decide +kernel
theorem dJ9_max_f86c9_11 : decode cJ9_max_f86c9 11 = .ok (.lreturn, 1) := by decide +kernel
theorem dJ9_min_7cf53_0 : decode cJ9_min_7cf53 0 = .ok (.iload_n 0, 1) := by decide +kernel
theorem dJ9_min_7cf53_1 : decode cJ9_min_7cf53 1 = .ok (.iload_n 1, 1) := by decide +kernel
theorem dJ9_min_7cf53_2 : decode cJ9_min_7cf53 2 = .ok (.if_icmp .gt 7, 3) := by decide +kernel
theorem dJ9_min_7cf53_5 : decode cJ9_min_7cf53 5 = .ok (.iload_n 0, 1) := by decide +kernel
theorem dJ9_min_7cf53_6 : decode cJ9_min_7cf53 6 = .ok (.goto 4, 3) := by decide +kernel
theorem dJ9_min_7cf53_9 : decode cJ9_min_7cf53 9 = .ok (.iload_n 1, 1) := by decide +kernel
theorem dJ9_min_7cf53_10 : decode cJ9_min_7cf53 10 = .ok (.ireturn, 1) := by decide +kernel
theorem dJ9_min_f86c9_0 : decode cJ9_min_f86c9 0 = .ok (.lload_n 0, 1) := by decide +kernel
theorem dJ9_min_f86c9_1 : decode cJ9_min_f86c9 1 = .ok (.lload_n 2, 1) := by decide +kernel
theorem dJ9_min_f86c9_2 : decode cJ9_min_f86c9 2 = .ok (.lcmp, 1) := by decide +kernel
theorem dJ9_min_f86c9_3 : decode cJ9_min_f86c9 3 = .ok (.ifCond .gt 7, 3) := by decide +kernel
theorem dJ9_min_f86c9_6 : decode cJ9_min_f86c9 6 = .ok (.lload_n 0, 1) := by decide +kernel
theorem dJ9_min_f86c9_7 : decode cJ9_min_f86c9 7 = .ok (.goto 4, 3) := by decide +kernel
theorem dJ9_min_f86c9_10 : decode cJ9_min_f86c9 10 = .ok (.lload_n 2, 1) := by decide +kernel
theorem dJ9_min_f86c9_11 : decode cJ9_min_f86c9 11 = .ok (.lreturn, 1) := by decide +kernel
theorem dL_law_0 : decode cL_law 0 = .ok (.new 7, 3) := by decide +kernel
theorem dL_law_3 : decode cL_law 3 = .ok (.dup, 1) := by decide +kernel
theorem dL_law_4 : decode cL_law 4 = .ok (.invokespecial 9, 3) := by decide +kernel
theorem dL_law_7 : decode cL_law 7 = .ok (.astore_n 1, 1) := by decide +kernel
theorem dL_law_8 : decode cL_law 8 = .ok (.new 10, 3) := by decide +kernel
theorem dL_law_11 : decode cL_law 11 = .ok (.dup, 1) := by decide +kernel
theorem dL_law_12 : decode cL_law 12 = .ok (.invokespecial 12, 3) := by decide +kernel
theorem dL_law_15 : decode cL_law 15 = .ok (.astore_n 2, 1) := by decide +kernel
theorem dL_law_16 : decode cL_law 16 = .ok (.iconst 0, 1) := by decide +kernel
theorem dL_law_17 : decode cL_law 17 = .ok (.istore_n 3, 1) := by decide +kernel
theorem dL_law_18 : decode cL_law 18 = .ok (.iload_n 3, 1) := by decide +kernel
theorem dL_law_19 : decode cL_law 19 = .ok (.aload_n 0, 1) := by decide +kernel
theorem dL_law_20 : decode cL_law 20 = .ok (.arraylength, 1) := by decide +kernel
theorem dL_law_21 : decode cL_law 21 = .ok (.bipush 6, 2) := by decide +kernel
theorem dL_law_23 : decode cL_law 23 = .ok (.isub, 1) := by decide +kernel
theorem dL_law_24 : decode cL_law 24 = .ok (.if_icmp .gt 1314, 3) := by decide +kernel
theorem dL_law_27 : decode cL_law 27 = .ok (.aload_n 0, 1) := by decide +kernel
theorem dL_law_28 : decode cL_law 28 = .ok (.iload_n 3, 1) := by decide +kernel
theorem dL_law_29 : decode cL_law 29 = .ok (.iaload, 1) := by decide +kernel
theorem dL_law_30 : decode cL_law 30 = .ok (.bipush 63, 2) := by decide +kernel
theorem dL_law_32 : decode cL_law 32 = .ok (.iand, 1) := by decide +kernel
theorem dL_law_33 : decode cL_law 33 = .ok (.tableswitch 1299 0 32 #[147, 200, 249, 298, 331, 384, 397, 410, 433, 487, 520, 544, 567, 590, 653, 687, 736, 769, 812, 855, 889, 922, 955, 998, 1021, 1064, 1108, 1171, 1194, 1217, 1250, 1263, 1276], 147) := by decide +kernel
theorem dL_law_180 : decode cL_law 180 = .ok (.aload_n 1, 1) := by decide +kernel
theorem dL_law_181 : decode cL_law 181 = .ok (.aload_n 0, 1) := by decide +kernel
theorem dL_law_182 : decode cL_law 182 = .ok (.iload_n 3, 1) := by decide +kernel
theorem dL_law_183 : decode cL_law 183 = .ok (.iconst 1, 1) := by decide +kernel
theorem dL_law_184 : decode cL_law 184 = .ok (.iadd, 1) := by decide +kernel
theorem dL_law_185 : decode cL_law 185 = .ok (.iaload, 1) := by decide +kernel
theorem dL_law_186 : decode cL_law 186 = .ok (.aload_n 0, 1) := by decide +kernel
theorem dL_law_187 : decode cL_law 187 = .ok (.iload_n 3, 1) := by decide +kernel
theorem dL_law_188 : decode cL_law 188 = .ok (.iconst 2, 1) := by decide +kernel
theorem dL_law_189 : decode cL_law 189 = .ok (.iadd, 1) := by decide +kernel
theorem dL_law_190 : decode cL_law 190 = .ok (.iaload, 1) := by decide +kernel
theorem dL_law_191 : decode cL_law 191 = .ok (.aload_n 0, 1) := by decide +kernel
theorem dL_law_192 : decode cL_law 192 = .ok (.iload_n 3, 1) := by decide +kernel
theorem dL_law_193 : decode cL_law 193 = .ok (.iconst 3, 1) := by decide +kernel
theorem dL_law_194 : decode cL_law 194 = .ok (.iadd, 1) := by decide +kernel
theorem dL_law_195 : decode cL_law 195 = .ok (.iaload, 1) := by decide +kernel
theorem dL_law_196 : decode cL_law 196 = .ok (.aload_n 0, 1) := by decide +kernel
theorem dL_law_197 : decode cL_law 197 = .ok (.iload_n 3, 1) := by decide +kernel
theorem dL_law_198 : decode cL_law 198 = .ok (.iconst 4, 1) := by decide +kernel
theorem dL_law_199 : decode cL_law 199 = .ok (.iadd, 1) := by decide +kernel
theorem dL_law_200 : decode cL_law 200 = .ok (.iaload, 1) := by decide +kernel
theorem dL_law_201 : decode cL_law 201 = .ok (.invokevirtual 13, 3) := by decide +kernel
theorem dL_law_204 : decode cL_law 204 = .ok (.aload_n 2, 1) := by decide +kernel
theorem dL_law_205 : decode cL_law 205 = .ok (.aload_n 0, 1) := by decide +kernel
theorem dL_law_206 : decode cL_law 206 = .ok (.iload_n 3, 1) := by decide +kernel
theorem dL_law_207 : decode cL_law 207 = .ok (.iconst 1, 1) := by decide +kernel
theorem dL_law_208 : decode cL_law 208 = .ok (.iadd, 1) := by decide +kernel
theorem dL_law_209 : decode cL_law 209 = .ok (.iaload, 1) := by decide +kernel
theorem dL_law_210 : decode cL_law 210 = .ok (.aload_n 0, 1) := by decide +kernel
theorem dL_law_211 : decode cL_law 211 = .ok (.iload_n 3, 1) := by decide +kernel
theorem dL_law_212 : decode cL_law 212 = .ok (.iconst 2, 1) := by decide +kernel
theorem dL_law_213 : decode cL_law 213 = .ok (.iadd, 1) := by decide +kernel
theorem dL_law_214 : decode cL_law 214 = .ok (.iaload, 1) := by decide +kernel
theorem dL_law_215 : decode cL_law 215 = .ok (.aload_n 0, 1) := by decide +kernel
theorem dL_law_216 : decode cL_law 216 = .ok (.iload_n 3, 1) := by decide +kernel
theorem dL_law_217 : decode cL_law 217 = .ok (.iconst 3, 1) := by decide +kernel
theorem dL_law_218 : decode cL_law 218 = .ok (.iadd, 1) := by decide +kernel
theorem dL_law_219 : decode cL_law 219 = .ok (.iaload, 1) := by decide +kernel
theorem dL_law_220 : decode cL_law 220 = .ok (.aload_n 0, 1) := by decide +kernel
theorem dL_law_221 : decode cL_law 221 = .ok (.iload_n 3, 1) := by decide +kernel
theorem dL_law_222 : decode cL_law 222 = .ok (.iconst 4, 1) := by decide +kernel
theorem dL_law_223 : decode cL_law 223 = .ok (.iadd, 1) := by decide +kernel
theorem dL_law_224 : decode cL_law 224 = .ok (.iaload, 1) := by decide +kernel
theorem dL_law_225 : decode cL_law 225 = .ok (.invokevirtual 17, 3) := by decide +kernel
theorem dL_law_228 : decode cL_law 228 = .ok (.if_icmp .eq 1104, 3) := by decide +kernel
theorem dL_law_231 : decode cL_law 231 = .ok (.iconst 0, 1) := by decide +kernel
theorem dL_law_232 : decode cL_law 232 = .ok (.ireturn, 1) := by decide +kernel
theorem dL_law_233 : decode cL_law 233 = .ok (.aload_n 1, 1) := by decide +kernel
theorem dL_law_234 : decode cL_law 234 = .ok (.aload_n 0, 1) := by decide +kernel
theorem dL_law_235 : decode cL_law 235 = .ok (.iload_n 3, 1) := by decide +kernel
theorem dL_law_236 : decode cL_law 236 = .ok (.iconst 1, 1) := by decide +kernel
theorem dL_law_237 : decode cL_law 237 = .ok (.iadd, 1) := by decide +kernel
theorem dL_law_238 : decode cL_law 238 = .ok (.iaload, 1) := by decide +kernel
theorem dL_law_239 : decode cL_law 239 = .ok (.aload_n 0, 1) := by decide +kernel
theorem dL_law_240 : decode cL_law 240 = .ok (.iload_n 3, 1) := by decide +kernel
theorem dL_law_241 : decode cL_law 241 = .ok (.iconst 2, 1) := by decide +kernel
theorem dL_law_242 : decode cL_law 242 = .ok (.iadd, 1) := by decide +kernel
theorem dL_law_243 : decode cL_law 243 = .ok (.iaload, 1) := by decide +kernel
theorem dL_law_244 : decode cL_law 244 = .ok (.ifCond .eq 7, 3) := by decide +kernel
theorem dL_law_247 : decode cL_law 247 = .ok (.iconst 1, 1) := by decide +kernel
theorem dL_law_248 : decode cL_law 248 = .ok (.goto 4, 3) := by decide +kernel
theorem dL_law_251 : decode cL_law 251 = .ok (.iconst 0, 1) := by decide +kernel
theorem dL_law_252 : decode cL_law 252 = .ok (.invokevirtual 18, 3) := by decide +kernel
theorem dL_law_255 : decode cL_law 255 = .ok (.aload_n 2, 1) := by decide +kernel
theorem dL_law_256 : decode cL_law 256 = .ok (.aload_n 0, 1) := by decide +kernel
theorem dL_law_257 : decode cL_law 257 = .ok (.iload_n 3, 1) := by decide +kernel
theorem dL_law_258 : decode cL_law 258 = .ok (.iconst 1, 1) := by decide +kernel
theorem dL_law_259 : decode cL_law 259 = .ok (.iadd, 1) := by decide +kernel
theorem dL_law_260 : decode cL_law 260 = .ok (.iaload, 1) := by decide +kernel
theorem dL_law_261 : decode cL_law 261 = .ok (.aload_n 0, 1) := by decide +kernel
theorem dL_law_262 : decode cL_law 262 = .ok (.iload_n 3, 1) := by decide +kernel
theorem dL_law_263 : decode cL_law 263 = .ok (.iconst 2, 1) := by decide +kernel
theorem dL_law_264 : decode cL_law 264 = .ok (.iadd, 1) := by decide +kernel
theorem dL_law_265 : decode cL_law 265 = .ok (.iaload, 1) := by decide +kernel
theorem dL_law_266 : decode cL_law 266 = .ok (.ifCond .eq 7, 3) := by decide +kernel
theorem dL_law_269 : decode cL_law 269 = .ok (.iconst 1, 1) := by decide +kernel
theorem dL_law_270 : decode cL_law 270 = .ok (.goto 4, 3) := by decide +kernel
theorem dL_law_273 : decode cL_law 273 = .ok (.iconst 0, 1) := by decide +kernel
theorem dL_law_274 : decode cL_law 274 = .ok (.invokevirtual 22, 3) := by decide +kernel
theorem dL_law_277 : decode cL_law 277 = .ok (.if_icmp .eq 1055, 3) := by decide +kernel
theorem dL_law_280 : decode cL_law 280 = .ok (.iconst 0, 1) := by decide +kernel
theorem dL_law_281 : decode cL_law 281 = .ok (.ireturn, 1) := by decide +kernel
theorem dL_law_282 : decode cL_law 282 = .ok (.aload_n 1, 1) := by decide +kernel
theorem dL_law_283 : decode cL_law 283 = .ok (.aload_n 0, 1) := by decide +kernel
theorem dL_law_284 : decode cL_law 284 = .ok (.iload_n 3, 1) := by decide +kernel
theorem dL_law_285 : decode cL_law 285 = .ok (.iconst 1, 1) := by decide +kernel
theorem dL_law_286 : decode cL_law 286 = .ok (.iadd, 1) := by decide +kernel
theorem dL_law_287 : decode cL_law 287 = .ok (.iaload, 1) := by decide +kernel
theorem dL_law_288 : decode cL_law 288 = .ok (.aload_n 0, 1) := by decide +kernel
theorem dL_law_289 : decode cL_law 289 = .ok (.iload_n 3, 1) := by decide +kernel
theorem dL_law_290 : decode cL_law 290 = .ok (.iconst 2, 1) := by decide +kernel
theorem dL_law_291 : decode cL_law 291 = .ok (.iadd, 1) := by decide +kernel
theorem dL_law_292 : decode cL_law 292 = .ok (.iaload, 1) := by decide +kernel
theorem dL_law_293 : decode cL_law 293 = .ok (.ifCond .eq 7, 3) := by decide +kernel
theorem dL_law_296 : decode cL_law 296 = .ok (.iconst 1, 1) := by decide +kernel
theorem dL_law_297 : decode cL_law 297 = .ok (.goto 4, 3) := by decide +kernel
theorem dL_law_300 : decode cL_law 300 = .ok (.iconst 0, 1) := by decide +kernel
theorem dL_law_301 : decode cL_law 301 = .ok (.invokevirtual 23, 3) := by decide +kernel
theorem dL_law_304 : decode cL_law 304 = .ok (.aload_n 2, 1) := by decide +kernel
theorem dL_law_305 : decode cL_law 305 = .ok (.aload_n 0, 1) := by decide +kernel
theorem dL_law_306 : decode cL_law 306 = .ok (.iload_n 3, 1) := by decide +kernel
theorem dL_law_307 : decode cL_law 307 = .ok (.iconst 1, 1) := by decide +kernel
theorem dL_law_308 : decode cL_law 308 = .ok (.iadd, 1) := by decide +kernel
theorem dL_law_309 : decode cL_law 309 = .ok (.iaload, 1) := by decide +kernel
theorem dL_law_310 : decode cL_law 310 = .ok (.aload_n 0, 1) := by decide +kernel
theorem dL_law_311 : decode cL_law 311 = .ok (.iload_n 3, 1) := by decide +kernel
theorem dL_law_312 : decode cL_law 312 = .ok (.iconst 2, 1) := by decide +kernel
theorem dL_law_313 : decode cL_law 313 = .ok (.iadd, 1) := by decide +kernel
theorem dL_law_314 : decode cL_law 314 = .ok (.iaload, 1) := by decide +kernel
theorem dL_law_315 : decode cL_law 315 = .ok (.ifCond .eq 7, 3) := by decide +kernel
theorem dL_law_318 : decode cL_law 318 = .ok (.iconst 1, 1) := by decide +kernel
theorem dL_law_319 : decode cL_law 319 = .ok (.goto 4, 3) := by decide +kernel
theorem dL_law_322 : decode cL_law 322 = .ok (.iconst 0, 1) := by decide +kernel
theorem dL_law_323 : decode cL_law 323 = .ok (.invokevirtual 26, 3) := by decide +kernel
theorem dL_law_326 : decode cL_law 326 = .ok (.if_icmp .eq 1006, 3) := by decide +kernel
theorem dL_law_329 : decode cL_law 329 = .ok (.iconst 0, 1) := by decide +kernel
theorem dL_law_330 : decode cL_law 330 = .ok (.ireturn, 1) := by decide +kernel
theorem dL_law_331 : decode cL_law 331 = .ok (.aload_n 1, 1) := by decide +kernel
theorem dL_law_332 : decode cL_law 332 = .ok (.aload_n 0, 1) := by decide +kernel
theorem dL_law_333 : decode cL_law 333 = .ok (.iload_n 3, 1) := by decide +kernel
theorem dL_law_334 : decode cL_law 334 = .ok (.iconst 1, 1) := by decide +kernel
theorem dL_law_335 : decode cL_law 335 = .ok (.iadd, 1) := by decide +kernel
theorem dL_law_336 : decode cL_law 336 = .ok (.iaload, 1) := by decide +kernel
theorem dL_law_337 : decode cL_law 337 = .ok (.aload_n 0, 1) := by decide +kernel
theorem dL_law_338 : decode cL_law 338 = .ok (.iload_n 3, 1) := by decide +kernel
theorem dL_law_339 : decode cL_law 339 = .ok (.iconst 2, 1) := by decide +kernel
theorem dL_law_340 : decode cL_law 340 = .ok (.iadd, 1) := by decide +kernel
theorem dL_law_341 : decode cL_law 341 = .ok (.iaload, 1) := by decide +kernel
theorem dL_law_342 : decode cL_law 342 = .ok (.invokevirtual 27, 3) := by decide +kernel
theorem dL_law_345 : decode cL_law 345 = .ok (.aload_n 2, 1) := by decide +kernel
theorem dL_law_346 : decode cL_law 346 = .ok (.aload_n 0, 1) := by decide +kernel
theorem dL_law_347 : decode cL_law 347 = .ok (.iload_n 3, 1) := by decide +kernel
theorem dL_law_348 : decode cL_law 348 = .ok (.iconst 1, 1) := by decide +kernel
theorem dL_law_349 : decode cL_law 349 = .ok (.iadd, 1) := by decide +kernel
theorem dL_law_350 : decode cL_law 350 = .ok (.iaload, 1) := by decide +kernel
theorem dL_law_351 : decode cL_law 351 = .ok (.aload_n 0, 1) := by decide +kernel
theorem dL_law_352 : decode cL_law 352 = .ok (.iload_n 3, 1) := by decide +kernel
theorem dL_law_353 : decode cL_law 353 = .ok (.iconst 2, 1) := by decide +kernel
theorem dL_law_354 : decode cL_law 354 = .ok (.iadd, 1) := by decide +kernel
theorem dL_law_355 : decode cL_law 355 = .ok (.iaload, 1) := by decide +kernel
theorem dL_law_356 : decode cL_law 356 = .ok (.invokevirtual 31, 3) := by decide +kernel
theorem dL_law_359 : decode cL_law 359 = .ok (.if_icmp .eq 973, 3) := by decide +kernel
theorem dL_law_362 : decode cL_law 362 = .ok (.iconst 0, 1) := by decide +kernel
theorem dL_law_363 : decode cL_law 363 = .ok (.ireturn, 1) := by decide +kernel
theorem dL_law_364 : decode cL_law 364 = .ok (.aload_n 1, 1) := by decide +kernel
theorem dL_law_365 : decode cL_law 365 = .ok (.aload_n 0, 1) := by decide +kernel
theorem dL_law_366 : decode cL_law 366 = .ok (.iload_n 3, 1) := by decide +kernel
theorem dL_law_367 : decode cL_law 367 = .ok (.iconst 1, 1) := by decide +kernel
theorem dL_law_368 : decode cL_law 368 = .ok (.iadd, 1) := by decide +kernel
theorem dL_law_369 : decode cL_law 369 = .ok (.iaload, 1) := by decide +kernel
theorem dL_law_370 : decode cL_law 370 = .ok (.aload_n 0, 1) := by decide +kernel
theorem dL_law_371 : decode cL_law 371 = .ok (.iload_n 3, 1) := by decide +kernel
theorem dL_law_372 : decode cL_law 372 = .ok (.iconst 2, 1) := by decide +kernel
theorem dL_law_373 : decode cL_law 373 = .ok (.iadd, 1) := by decide +kernel
theorem dL_law_374 : decode cL_law 374 = .ok (.iaload, 1) := by decide +kernel
theorem dL_law_375 : decode cL_law 375 = .ok (.aload_n 0, 1) := by decide +kernel
theorem dL_law_376 : decode cL_law 376 = .ok (.iload_n 3, 1) := by decide +kernel
theorem dL_law_377 : decode cL_law 377 = .ok (.iconst 3, 1) := by decide +kernel
theorem dL_law_378 : decode cL_law 378 = .ok (.iadd, 1) := by decide +kernel
theorem dL_law_379 : decode cL_law 379 = .ok (.iaload, 1) := by decide +kernel
theorem dL_law_380 : decode cL_law 380 = .ok (.aload_n 0, 1) := by decide +kernel
theorem dL_law_381 : decode cL_law 381 = .ok (.iload_n 3, 1) := by decide +kernel
theorem dL_law_382 : decode cL_law 382 = .ok (.iconst 4, 1) := by decide +kernel
theorem dL_law_383 : decode cL_law 383 = .ok (.iadd, 1) := by decide +kernel
theorem dL_law_384 : decode cL_law 384 = .ok (.iaload, 1) := by decide +kernel
theorem dL_law_385 : decode cL_law 385 = .ok (.invokevirtual 32, 3) := by decide +kernel
theorem dL_law_388 : decode cL_law 388 = .ok (.aload_n 2, 1) := by decide +kernel
theorem dL_law_389 : decode cL_law 389 = .ok (.aload_n 0, 1) := by decide +kernel
theorem dL_law_390 : decode cL_law 390 = .ok (.iload_n 3, 1) := by decide +kernel
theorem dL_law_391 : decode cL_law 391 = .ok (.iconst 1, 1) := by decide +kernel
theorem dL_law_392 : decode cL_law 392 = .ok (.iadd, 1) := by decide +kernel
theorem dL_law_393 : decode cL_law 393 = .ok (.iaload, 1) := by decide +kernel
theorem dL_law_394 : decode cL_law 394 = .ok (.aload_n 0, 1) := by decide +kernel
theorem dL_law_395 : decode cL_law 395 = .ok (.iload_n 3, 1) := by decide +kernel
theorem dL_law_396 : decode cL_law 396 = .ok (.iconst 2, 1) := by decide +kernel
theorem dL_law_397 : decode cL_law 397 = .ok (.iadd, 1) := by decide +kernel
theorem dL_law_398 : decode cL_law 398 = .ok (.iaload, 1) := by decide +kernel
theorem dL_law_399 : decode cL_law 399 = .ok (.aload_n 0, 1) := by decide +kernel
theorem dL_law_400 : decode cL_law 400 = .ok (.iload_n 3, 1) := by decide +kernel
theorem dL_law_401 : decode cL_law 401 = .ok (.iconst 3, 1) := by decide +kernel
theorem dL_law_402 : decode cL_law 402 = .ok (.iadd, 1) := by decide +kernel
theorem dL_law_403 : decode cL_law 403 = .ok (.iaload, 1) := by decide +kernel
theorem dL_law_404 : decode cL_law 404 = .ok (.aload_n 0, 1) := by decide +kernel
theorem dL_law_405 : decode cL_law 405 = .ok (.iload_n 3, 1) := by decide +kernel
theorem dL_law_406 : decode cL_law 406 = .ok (.iconst 4, 1) := by decide +kernel
theorem dL_law_407 : decode cL_law 407 = .ok (.iadd, 1) := by decide +kernel
theorem dL_law_408 : decode cL_law 408 = .ok (.iaload, 1) := by decide +kernel
theorem dL_law_409 : decode cL_law 409 = .ok (.invokevirtual 35, 3) := by decide +kernel
theorem dL_law_412 : decode cL_law 412 = .ok (.if_icmp .eq 920, 3) := by decide +kernel
theorem dL_law_415 : decode cL_law 415 = .ok (.iconst 0, 1) := by decide +kernel
theorem dL_law_416 : decode cL_law 416 = .ok (.ireturn, 1) := by decide +kernel
theorem dL_law_417 : decode cL_law 417 = .ok (.aload_n 1, 1) := by decide +kernel
theorem dL_law_418 : decode cL_law 418 = .ok (.invokevirtual 36, 3) := by decide +kernel
theorem dL_law_421 : decode cL_law 421 = .ok (.aload_n 2, 1) := by decide +kernel
theorem dL_law_422 : decode cL_law 422 = .ok (.invokevirtual 40, 3) := by decide +kernel
theorem dL_law_425 : decode cL_law 425 = .ok (.if_icmp .eq 907, 3) := by decide +kernel
theorem dL_law_428 : decode cL_law 428 = .ok (.iconst 0, 1) := by decide +kernel
theorem dL_law_429 : decode cL_law 429 = .ok (.ireturn, 1) := by decide +kernel
theorem dL_law_430 : decode cL_law 430 = .ok (.aload_n 1, 1) := by decide +kernel
theorem dL_law_431 : decode cL_law 431 = .ok (.invokevirtual 41, 3) := by decide +kernel
theorem dL_law_434 : decode cL_law 434 = .ok (.aload_n 2, 1) := by decide +kernel
theorem dL_law_435 : decode cL_law 435 = .ok (.invokevirtual 44, 3) := by decide +kernel
theorem dL_law_438 : decode cL_law 438 = .ok (.if_icmp .eq 894, 3) := by decide +kernel
theorem dL_law_441 : decode cL_law 441 = .ok (.iconst 0, 1) := by decide +kernel
theorem dL_law_442 : decode cL_law 442 = .ok (.ireturn, 1) := by decide +kernel
theorem dL_law_443 : decode cL_law 443 = .ok (.aload_n 1, 1) := by decide +kernel
theorem dL_law_444 : decode cL_law 444 = .ok (.aload_n 0, 1) := by decide +kernel
theorem dL_law_445 : decode cL_law 445 = .ok (.iload_n 3, 1) := by decide +kernel
theorem dL_law_446 : decode cL_law 446 = .ok (.iconst 1, 1) := by decide +kernel
theorem dL_law_447 : decode cL_law 447 = .ok (.iadd, 1) := by decide +kernel
theorem dL_law_448 : decode cL_law 448 = .ok (.iaload, 1) := by decide +kernel
theorem dL_law_449 : decode cL_law 449 = .ok (.invokevirtual 45, 3) := by decide +kernel
theorem dL_law_452 : decode cL_law 452 = .ok (.aload_n 2, 1) := by decide +kernel
theorem dL_law_453 : decode cL_law 453 = .ok (.aload_n 0, 1) := by decide +kernel
theorem dL_law_454 : decode cL_law 454 = .ok (.iload_n 3, 1) := by decide +kernel
theorem dL_law_455 : decode cL_law 455 = .ok (.iconst 1, 1) := by decide +kernel
theorem dL_law_456 : decode cL_law 456 = .ok (.iadd, 1) := by decide +kernel
theorem dL_law_457 : decode cL_law 457 = .ok (.iaload, 1) := by decide +kernel
theorem dL_law_458 : decode cL_law 458 = .ok (.invokevirtual 49, 3) := by decide +kernel
theorem dL_law_461 : decode cL_law 461 = .ok (.if_icmp .eq 871, 3) := by decide +kernel
theorem dL_law_464 : decode cL_law 464 = .ok (.iconst 0, 1) := by decide +kernel
theorem dL_law_465 : decode cL_law 465 = .ok (.ireturn, 1) := by decide +kernel
theorem dL_law_466 : decode cL_law 466 = .ok (.aload_n 1, 1) := by decide +kernel
theorem dL_law_467 : decode cL_law 467 = .ok (.aload_n 0, 1) := by decide +kernel
theorem dL_law_468 : decode cL_law 468 = .ok (.iload_n 3, 1) := by decide +kernel
theorem dL_law_469 : decode cL_law 469 = .ok (.iconst 1, 1) := by decide +kernel
theorem dL_law_470 : decode cL_law 470 = .ok (.iadd, 1) := by decide +kernel
theorem dL_law_471 : decode cL_law 471 = .ok (.iaload, 1) := by decide +kernel
theorem dL_law_472 : decode cL_law 472 = .ok (.aload_n 0, 1) := by decide +kernel
theorem dL_law_473 : decode cL_law 473 = .ok (.iload_n 3, 1) := by decide +kernel
theorem dL_law_474 : decode cL_law 474 = .ok (.iconst 2, 1) := by decide +kernel
theorem dL_law_475 : decode cL_law 475 = .ok (.iadd, 1) := by decide +kernel
theorem dL_law_476 : decode cL_law 476 = .ok (.iaload, 1) := by decide +kernel
theorem dL_law_477 : decode cL_law 477 = .ok (.aload_n 0, 1) := by decide +kernel
theorem dL_law_478 : decode cL_law 478 = .ok (.iload_n 3, 1) := by decide +kernel
theorem dL_law_479 : decode cL_law 479 = .ok (.iconst 3, 1) := by decide +kernel
theorem dL_law_480 : decode cL_law 480 = .ok (.iadd, 1) := by decide +kernel
theorem dL_law_481 : decode cL_law 481 = .ok (.iaload, 1) := by decide +kernel
theorem dL_law_482 : decode cL_law 482 = .ok (.aload_n 0, 1) := by decide +kernel
theorem dL_law_483 : decode cL_law 483 = .ok (.iload_n 3, 1) := by decide +kernel
theorem dL_law_484 : decode cL_law 484 = .ok (.iconst 4, 1) := by decide +kernel
theorem dL_law_485 : decode cL_law 485 = .ok (.iadd, 1) := by decide +kernel
theorem dL_law_486 : decode cL_law 486 = .ok (.iaload, 1) := by decide +kernel
theorem dL_law_487 : decode cL_law 487 = .ok (.invokevirtual 50, 3) := by decide +kernel
theorem dL_law_490 : decode cL_law 490 = .ok (.aload_n 2, 1) := by decide +kernel
theorem dL_law_491 : decode cL_law 491 = .ok (.aload_n 0, 1) := by decide +kernel
theorem dL_law_492 : decode cL_law 492 = .ok (.iload_n 3, 1) := by decide +kernel
theorem dL_law_493 : decode cL_law 493 = .ok (.iconst 1, 1) := by decide +kernel
theorem dL_law_494 : decode cL_law 494 = .ok (.iadd, 1) := by decide +kernel
theorem dL_law_495 : decode cL_law 495 = .ok (.iaload, 1) := by decide +kernel
theorem dL_law_496 : decode cL_law 496 = .ok (.aload_n 0, 1) := by decide +kernel
theorem dL_law_497 : decode cL_law 497 = .ok (.iload_n 3, 1) := by decide +kernel
theorem dL_law_498 : decode cL_law 498 = .ok (.iconst 2, 1) := by decide +kernel
theorem dL_law_499 : decode cL_law 499 = .ok (.iadd, 1) := by decide +kernel
theorem dL_law_500 : decode cL_law 500 = .ok (.iaload, 1) := by decide +kernel
theorem dL_law_501 : decode cL_law 501 = .ok (.aload_n 0, 1) := by decide +kernel
theorem dL_law_502 : decode cL_law 502 = .ok (.iload_n 3, 1) := by decide +kernel
theorem dL_law_503 : decode cL_law 503 = .ok (.iconst 3, 1) := by decide +kernel
theorem dL_law_504 : decode cL_law 504 = .ok (.iadd, 1) := by decide +kernel
theorem dL_law_505 : decode cL_law 505 = .ok (.iaload, 1) := by decide +kernel
theorem dL_law_506 : decode cL_law 506 = .ok (.aload_n 0, 1) := by decide +kernel
theorem dL_law_507 : decode cL_law 507 = .ok (.iload_n 3, 1) := by decide +kernel
theorem dL_law_508 : decode cL_law 508 = .ok (.iconst 4, 1) := by decide +kernel
theorem dL_law_509 : decode cL_law 509 = .ok (.iadd, 1) := by decide +kernel
theorem dL_law_510 : decode cL_law 510 = .ok (.iaload, 1) := by decide +kernel
theorem dL_law_511 : decode cL_law 511 = .ok (.invokevirtual 54, 3) := by decide +kernel
theorem dL_law_514 : decode cL_law 514 = .ok (.lcmp, 1) := by decide +kernel
theorem dL_law_515 : decode cL_law 515 = .ok (.ifCond .eq 817, 3) := by decide +kernel
theorem dL_law_518 : decode cL_law 518 = .ok (.iconst 0, 1) := by decide +kernel
theorem dL_law_519 : decode cL_law 519 = .ok (.ireturn, 1) := by decide +kernel
theorem dL_law_520 : decode cL_law 520 = .ok (.aload_n 1, 1) := by decide +kernel
theorem dL_law_521 : decode cL_law 521 = .ok (.aload_n 0, 1) := by decide +kernel
theorem dL_law_522 : decode cL_law 522 = .ok (.iload_n 3, 1) := by decide +kernel
theorem dL_law_523 : decode cL_law 523 = .ok (.iconst 1, 1) := by decide +kernel
theorem dL_law_524 : decode cL_law 524 = .ok (.iadd, 1) := by decide +kernel
theorem dL_law_525 : decode cL_law 525 = .ok (.iaload, 1) := by decide +kernel
theorem dL_law_526 : decode cL_law 526 = .ok (.aload_n 0, 1) := by decide +kernel
theorem dL_law_527 : decode cL_law 527 = .ok (.iload_n 3, 1) := by decide +kernel
theorem dL_law_528 : decode cL_law 528 = .ok (.iconst 2, 1) := by decide +kernel
theorem dL_law_529 : decode cL_law 529 = .ok (.iadd, 1) := by decide +kernel
theorem dL_law_530 : decode cL_law 530 = .ok (.iaload, 1) := by decide +kernel
theorem dL_law_531 : decode cL_law 531 = .ok (.invokevirtual 55, 3) := by decide +kernel
theorem dL_law_534 : decode cL_law 534 = .ok (.aload_n 2, 1) := by decide +kernel
theorem dL_law_535 : decode cL_law 535 = .ok (.aload_n 0, 1) := by decide +kernel
theorem dL_law_536 : decode cL_law 536 = .ok (.iload_n 3, 1) := by decide +kernel
theorem dL_law_537 : decode cL_law 537 = .ok (.iconst 1, 1) := by decide +kernel
theorem dL_law_538 : decode cL_law 538 = .ok (.iadd, 1) := by decide +kernel
theorem dL_law_539 : decode cL_law 539 = .ok (.iaload, 1) := by decide +kernel
theorem dL_law_540 : decode cL_law 540 = .ok (.aload_n 0, 1) := by decide +kernel
theorem dL_law_541 : decode cL_law 541 = .ok (.iload_n 3, 1) := by decide +kernel
theorem dL_law_542 : decode cL_law 542 = .ok (.iconst 2, 1) := by decide +kernel
theorem dL_law_543 : decode cL_law 543 = .ok (.iadd, 1) := by decide +kernel
theorem dL_law_544 : decode cL_law 544 = .ok (.iaload, 1) := by decide +kernel
theorem dL_law_545 : decode cL_law 545 = .ok (.invokevirtual 58, 3) := by decide +kernel
theorem dL_law_548 : decode cL_law 548 = .ok (.if_icmp .eq 784, 3) := by decide +kernel
theorem dL_law_551 : decode cL_law 551 = .ok (.iconst 0, 1) := by decide +kernel
theorem dL_law_552 : decode cL_law 552 = .ok (.ireturn, 1) := by decide +kernel
theorem dL_law_553 : decode cL_law 553 = .ok (.aload_n 1, 1) := by decide +kernel
theorem dL_law_554 : decode cL_law 554 = .ok (.aload_n 0, 1) := by decide +kernel
theorem dL_law_555 : decode cL_law 555 = .ok (.iload_n 3, 1) := by decide +kernel
theorem dL_law_556 : decode cL_law 556 = .ok (.iconst 1, 1) := by decide +kernel
theorem dL_law_557 : decode cL_law 557 = .ok (.iadd, 1) := by decide +kernel
theorem dL_law_558 : decode cL_law 558 = .ok (.iaload, 1) := by decide +kernel
theorem dL_law_559 : decode cL_law 559 = .ok (.invokevirtual 59, 3) := by decide +kernel
theorem dL_law_562 : decode cL_law 562 = .ok (.aload_n 2, 1) := by decide +kernel
theorem dL_law_563 : decode cL_law 563 = .ok (.aload_n 0, 1) := by decide +kernel
theorem dL_law_564 : decode cL_law 564 = .ok (.iload_n 3, 1) := by decide +kernel
theorem dL_law_565 : decode cL_law 565 = .ok (.iconst 1, 1) := by decide +kernel
theorem dL_law_566 : decode cL_law 566 = .ok (.iadd, 1) := by decide +kernel
theorem dL_law_567 : decode cL_law 567 = .ok (.iaload, 1) := by decide +kernel
theorem dL_law_568 : decode cL_law 568 = .ok (.invokevirtual 63, 3) := by decide +kernel
theorem dL_law_571 : decode cL_law 571 = .ok (.lcmp, 1) := by decide +kernel
theorem dL_law_572 : decode cL_law 572 = .ok (.ifCond .eq 760, 3) := by decide +kernel
theorem dL_law_575 : decode cL_law 575 = .ok (.iconst 0, 1) := by decide +kernel
theorem dL_law_576 : decode cL_law 576 = .ok (.ireturn, 1) := by decide +kernel
theorem dL_law_577 : decode cL_law 577 = .ok (.aload_n 1, 1) := by decide +kernel
theorem dL_law_578 : decode cL_law 578 = .ok (.aload_n 0, 1) := by decide +kernel
theorem dL_law_579 : decode cL_law 579 = .ok (.iload_n 3, 1) := by decide +kernel
theorem dL_law_580 : decode cL_law 580 = .ok (.iconst 1, 1) := by decide +kernel
theorem dL_law_581 : decode cL_law 581 = .ok (.iadd, 1) := by decide +kernel
theorem dL_law_582 : decode cL_law 582 = .ok (.iaload, 1) := by decide +kernel
theorem dL_law_583 : decode cL_law 583 = .ok (.invokevirtual 64, 3) := by decide +kernel
theorem dL_law_586 : decode cL_law 586 = .ok (.aload_n 2, 1) := by decide +kernel
theorem dL_law_587 : decode cL_law 587 = .ok (.aload_n 0, 1) := by decide +kernel
theorem dL_law_588 : decode cL_law 588 = .ok (.iload_n 3, 1) := by decide +kernel
theorem dL_law_589 : decode cL_law 589 = .ok (.iconst 1, 1) := by decide +kernel
theorem dL_law_590 : decode cL_law 590 = .ok (.iadd, 1) := by decide +kernel
theorem dL_law_591 : decode cL_law 591 = .ok (.iaload, 1) := by decide +kernel
theorem dL_law_592 : decode cL_law 592 = .ok (.invokevirtual 67, 3) := by decide +kernel
theorem dL_law_595 : decode cL_law 595 = .ok (.if_icmp .eq 737, 3) := by decide +kernel
theorem dL_law_598 : decode cL_law 598 = .ok (.iconst 0, 1) := by decide +kernel
theorem dL_law_599 : decode cL_law 599 = .ok (.ireturn, 1) := by decide +kernel
theorem dL_law_600 : decode cL_law 600 = .ok (.aload_n 1, 1) := by decide +kernel
theorem dL_law_601 : decode cL_law 601 = .ok (.aload_n 0, 1) := by decide +kernel
theorem dL_law_602 : decode cL_law 602 = .ok (.iload_n 3, 1) := by decide +kernel
theorem dL_law_603 : decode cL_law 603 = .ok (.iconst 1, 1) := by decide +kernel
theorem dL_law_604 : decode cL_law 604 = .ok (.iadd, 1) := by decide +kernel
theorem dL_law_605 : decode cL_law 605 = .ok (.iaload, 1) := by decide +kernel
theorem dL_law_606 : decode cL_law 606 = .ok (.invokevirtual 68, 3) := by decide +kernel
theorem dL_law_609 : decode cL_law 609 = .ok (.aload_n 2, 1) := by decide +kernel
theorem dL_law_610 : decode cL_law 610 = .ok (.aload_n 0, 1) := by decide +kernel
theorem dL_law_611 : decode cL_law 611 = .ok (.iload_n 3, 1) := by decide +kernel
theorem dL_law_612 : decode cL_law 612 = .ok (.iconst 1, 1) := by decide +kernel
theorem dL_law_613 : decode cL_law 613 = .ok (.iadd, 1) := by decide +kernel
theorem dL_law_614 : decode cL_law 614 = .ok (.iaload, 1) := by decide +kernel
theorem dL_law_615 : decode cL_law 615 = .ok (.invokevirtual 71, 3) := by decide +kernel
theorem dL_law_618 : decode cL_law 618 = .ok (.if_icmp .eq 714, 3) := by decide +kernel
theorem dL_law_621 : decode cL_law 621 = .ok (.iconst 0, 1) := by decide +kernel
theorem dL_law_622 : decode cL_law 622 = .ok (.ireturn, 1) := by decide +kernel
theorem dL_law_623 : decode cL_law 623 = .ok (.aload_n 1, 1) := by decide +kernel
theorem dL_law_624 : decode cL_law 624 = .ok (.aload_n 0, 1) := by decide +kernel
theorem dL_law_625 : decode cL_law 625 = .ok (.iload_n 3, 1) := by decide +kernel
theorem dL_law_626 : decode cL_law 626 = .ok (.iconst 1, 1) := by decide +kernel
theorem dL_law_627 : decode cL_law 627 = .ok (.iadd, 1) := by decide +kernel
theorem dL_law_628 : decode cL_law 628 = .ok (.iaload, 1) := by decide +kernel
theorem dL_law_629 : decode cL_law 629 = .ok (.aload_n 0, 1) := by decide +kernel
theorem dL_law_630 : decode cL_law 630 = .ok (.iload_n 3, 1) := by decide +kernel
theorem dL_law_631 : decode cL_law 631 = .ok (.iconst 2, 1) := by decide +kernel
theorem dL_law_632 : decode cL_law 632 = .ok (.iadd, 1) := by decide +kernel
theorem dL_law_633 : decode cL_law 633 = .ok (.iaload, 1) := by decide +kernel
theorem dL_law_634 : decode cL_law 634 = .ok (.aload_n 0, 1) := by decide +kernel
theorem dL_law_635 : decode cL_law 635 = .ok (.iload_n 3, 1) := by decide +kernel
theorem dL_law_636 : decode cL_law 636 = .ok (.iconst 3, 1) := by decide +kernel
theorem dL_law_637 : decode cL_law 637 = .ok (.iadd, 1) := by decide +kernel
theorem dL_law_638 : decode cL_law 638 = .ok (.iaload, 1) := by decide +kernel
theorem dL_law_639 : decode cL_law 639 = .ok (.aload_n 0, 1) := by decide +kernel
theorem dL_law_640 : decode cL_law 640 = .ok (.iload_n 3, 1) := by decide +kernel
theorem dL_law_641 : decode cL_law 641 = .ok (.iconst 4, 1) := by decide +kernel
theorem dL_law_642 : decode cL_law 642 = .ok (.iadd, 1) := by decide +kernel
theorem dL_law_643 : decode cL_law 643 = .ok (.iaload, 1) := by decide +kernel
theorem dL_law_644 : decode cL_law 644 = .ok (.aload_n 0, 1) := by decide +kernel
theorem dL_law_645 : decode cL_law 645 = .ok (.iload_n 3, 1) := by decide +kernel
theorem dL_law_646 : decode cL_law 646 = .ok (.iconst 5, 1) := by decide +kernel
theorem dL_law_647 : decode cL_law 647 = .ok (.iadd, 1) := by decide +kernel
theorem dL_law_648 : decode cL_law 648 = .ok (.iaload, 1) := by decide +kernel
theorem dL_law_649 : decode cL_law 649 = .ok (.invokevirtual 72, 3) := by decide +kernel
theorem dL_law_652 : decode cL_law 652 = .ok (.aload_n 2, 1) := by decide +kernel
theorem dL_law_653 : decode cL_law 653 = .ok (.aload_n 0, 1) := by decide +kernel
theorem dL_law_654 : decode cL_law 654 = .ok (.iload_n 3, 1) := by decide +kernel
theorem dL_law_655 : decode cL_law 655 = .ok (.iconst 1, 1) := by decide +kernel
theorem dL_law_656 : decode cL_law 656 = .ok (.iadd, 1) := by decide +kernel
theorem dL_law_657 : decode cL_law 657 = .ok (.iaload, 1) := by decide +kernel
theorem dL_law_658 : decode cL_law 658 = .ok (.aload_n 0, 1) := by decide +kernel
theorem dL_law_659 : decode cL_law 659 = .ok (.iload_n 3, 1) := by decide +kernel
theorem dL_law_660 : decode cL_law 660 = .ok (.iconst 2, 1) := by decide +kernel
theorem dL_law_661 : decode cL_law 661 = .ok (.iadd, 1) := by decide +kernel
theorem dL_law_662 : decode cL_law 662 = .ok (.iaload, 1) := by decide +kernel
theorem dL_law_663 : decode cL_law 663 = .ok (.aload_n 0, 1) := by decide +kernel
theorem dL_law_664 : decode cL_law 664 = .ok (.iload_n 3, 1) := by decide +kernel
theorem dL_law_665 : decode cL_law 665 = .ok (.iconst 3, 1) := by decide +kernel
theorem dL_law_666 : decode cL_law 666 = .ok (.iadd, 1) := by decide +kernel
theorem dL_law_667 : decode cL_law 667 = .ok (.iaload, 1) := by decide +kernel
theorem dL_law_668 : decode cL_law 668 = .ok (.aload_n 0, 1) := by decide +kernel
theorem dL_law_669 : decode cL_law 669 = .ok (.iload_n 3, 1) := by decide +kernel
theorem dL_law_670 : decode cL_law 670 = .ok (.iconst 4, 1) := by decide +kernel
theorem dL_law_671 : decode cL_law 671 = .ok (.iadd, 1) := by decide +kernel
theorem dL_law_672 : decode cL_law 672 = .ok (.iaload, 1) := by decide +kernel
theorem dL_law_673 : decode cL_law 673 = .ok (.aload_n 0, 1) := by decide +kernel
theorem dL_law_674 : decode cL_law 674 = .ok (.iload_n 3, 1) := by decide +kernel
theorem dL_law_675 : decode cL_law 675 = .ok (.iconst 5, 1) := by decide +kernel
theorem dL_law_676 : decode cL_law 676 = .ok (.iadd, 1) := by decide +kernel
theorem dL_law_677 : decode cL_law 677 = .ok (.iaload, 1) := by decide +kernel
theorem dL_law_678 : decode cL_law 678 = .ok (.invokevirtual 76, 3) := by decide +kernel
theorem dL_law_681 : decode cL_law 681 = .ok (.if_icmp .eq 651, 3) := by decide +kernel
theorem dL_law_684 : decode cL_law 684 = .ok (.iconst 0, 1) := by decide +kernel
theorem dL_law_685 : decode cL_law 685 = .ok (.ireturn, 1) := by decide +kernel
theorem dL_law_686 : decode cL_law 686 = .ok (.aload_n 1, 1) := by decide +kernel
theorem dL_law_687 : decode cL_law 687 = .ok (.aload_n 0, 1) := by decide +kernel
theorem dL_law_688 : decode cL_law 688 = .ok (.iload_n 3, 1) := by decide +kernel
theorem dL_law_689 : decode cL_law 689 = .ok (.iconst 1, 1) := by decide +kernel
theorem dL_law_690 : decode cL_law 690 = .ok (.iadd, 1) := by decide +kernel
theorem dL_law_691 : decode cL_law 691 = .ok (.iaload, 1) := by decide +kernel
theorem dL_law_692 : decode cL_law 692 = .ok (.aload_n 0, 1) := by decide +kernel
theorem dL_law_693 : decode cL_law 693 = .ok (.iload_n 3, 1) := by decide +kernel
theorem dL_law_694 : decode cL_law 694 = .ok (.iconst 2, 1) := by decide +kernel
theorem dL_law_695 : decode cL_law 695 = .ok (.iadd, 1) := by decide +kernel
theorem dL_law_696 : decode cL_law 696 = .ok (.iaload, 1) := by decide +kernel
theorem dL_law_697 : decode cL_law 697 = .ok (.invokevirtual 77, 3) := by decide +kernel
theorem dL_law_700 : decode cL_law 700 = .ok (.aload_n 2, 1) := by decide +kernel
theorem dL_law_701 : decode cL_law 701 = .ok (.aload_n 0, 1) := by decide +kernel
theorem dL_law_702 : decode cL_law 702 = .ok (.iload_n 3, 1) := by decide +kernel
theorem dL_law_703 : decode cL_law 703 = .ok (.iconst 1, 1) := by decide +kernel
theorem dL_law_704 : decode cL_law 704 = .ok (.iadd, 1) := by decide +kernel
theorem dL_law_705 : decode cL_law 705 = .ok (.iaload, 1) := by decide +kernel
theorem dL_law_706 : decode cL_law 706 = .ok (.aload_n 0, 1) := by decide +kernel
theorem dL_law_707 : decode cL_law 707 = .ok (.iload_n 3, 1) := by decide +kernel
theorem dL_law_708 : decode cL_law 708 = .ok (.iconst 2, 1) := by decide +kernel
theorem dL_law_709 : decode cL_law 709 = .ok (.iadd, 1) := by decide +kernel
theorem dL_law_710 : decode cL_law 710 = .ok (.iaload, 1) := by decide +kernel
theorem dL_law_711 : decode cL_law 711 = .ok (.invokevirtual 81, 3) := by decide +kernel
theorem dL_law_714 : decode cL_law 714 = .ok (.lcmp, 1) := by decide +kernel
theorem dL_law_715 : decode cL_law 715 = .ok (.ifCond .eq 617, 3) := by decide +kernel
theorem dL_law_718 : decode cL_law 718 = .ok (.iconst 0, 1) := by decide +kernel
theorem dL_law_719 : decode cL_law 719 = .ok (.ireturn, 1) := by decide +kernel
theorem dL_law_720 : decode cL_law 720 = .ok (.aload_n 1, 1) := by decide +kernel
theorem dL_law_721 : decode cL_law 721 = .ok (.aload_n 0, 1) := by decide +kernel
theorem dL_law_722 : decode cL_law 722 = .ok (.iload_n 3, 1) := by decide +kernel
theorem dL_law_723 : decode cL_law 723 = .ok (.iconst 1, 1) := by decide +kernel
theorem dL_law_724 : decode cL_law 724 = .ok (.iadd, 1) := by decide +kernel
theorem dL_law_725 : decode cL_law 725 = .ok (.iaload, 1) := by decide +kernel
theorem dL_law_726 : decode cL_law 726 = .ok (.aload_n 0, 1) := by decide +kernel
theorem dL_law_727 : decode cL_law 727 = .ok (.iload_n 3, 1) := by decide +kernel
theorem dL_law_728 : decode cL_law 728 = .ok (.iconst 2, 1) := by decide +kernel
theorem dL_law_729 : decode cL_law 729 = .ok (.iadd, 1) := by decide +kernel
theorem dL_law_730 : decode cL_law 730 = .ok (.iaload, 1) := by decide +kernel
theorem dL_law_731 : decode cL_law 731 = .ok (.ifCond .eq 7, 3) := by decide +kernel
theorem dL_law_734 : decode cL_law 734 = .ok (.iconst 1, 1) := by decide +kernel
theorem dL_law_735 : decode cL_law 735 = .ok (.goto 4, 3) := by decide +kernel
theorem dL_law_738 : decode cL_law 738 = .ok (.iconst 0, 1) := by decide +kernel
theorem dL_law_739 : decode cL_law 739 = .ok (.invokevirtual 82, 3) := by decide +kernel
theorem dL_law_742 : decode cL_law 742 = .ok (.aload_n 2, 1) := by decide +kernel
theorem dL_law_743 : decode cL_law 743 = .ok (.aload_n 0, 1) := by decide +kernel
theorem dL_law_744 : decode cL_law 744 = .ok (.iload_n 3, 1) := by decide +kernel
theorem dL_law_745 : decode cL_law 745 = .ok (.iconst 1, 1) := by decide +kernel
theorem dL_law_746 : decode cL_law 746 = .ok (.iadd, 1) := by decide +kernel
theorem dL_law_747 : decode cL_law 747 = .ok (.iaload, 1) := by decide +kernel
theorem dL_law_748 : decode cL_law 748 = .ok (.aload_n 0, 1) := by decide +kernel
theorem dL_law_749 : decode cL_law 749 = .ok (.iload_n 3, 1) := by decide +kernel
theorem dL_law_750 : decode cL_law 750 = .ok (.iconst 2, 1) := by decide +kernel
theorem dL_law_751 : decode cL_law 751 = .ok (.iadd, 1) := by decide +kernel
theorem dL_law_752 : decode cL_law 752 = .ok (.iaload, 1) := by decide +kernel
theorem dL_law_753 : decode cL_law 753 = .ok (.ifCond .eq 7, 3) := by decide +kernel
theorem dL_law_756 : decode cL_law 756 = .ok (.iconst 1, 1) := by decide +kernel
theorem dL_law_757 : decode cL_law 757 = .ok (.goto 4, 3) := by decide +kernel
theorem dL_law_760 : decode cL_law 760 = .ok (.iconst 0, 1) := by decide +kernel
theorem dL_law_761 : decode cL_law 761 = .ok (.invokevirtual 85, 3) := by decide +kernel
theorem dL_law_764 : decode cL_law 764 = .ok (.if_icmp .eq 568, 3) := by decide +kernel
theorem dL_law_767 : decode cL_law 767 = .ok (.iconst 0, 1) := by decide +kernel
theorem dL_law_768 : decode cL_law 768 = .ok (.ireturn, 1) := by decide +kernel
theorem dL_law_769 : decode cL_law 769 = .ok (.aload_n 1, 1) := by decide +kernel
theorem dL_law_770 : decode cL_law 770 = .ok (.aload_n 0, 1) := by decide +kernel
theorem dL_law_771 : decode cL_law 771 = .ok (.iload_n 3, 1) := by decide +kernel
theorem dL_law_772 : decode cL_law 772 = .ok (.iconst 1, 1) := by decide +kernel
theorem dL_law_773 : decode cL_law 773 = .ok (.iadd, 1) := by decide +kernel
theorem dL_law_774 : decode cL_law 774 = .ok (.iaload, 1) := by decide +kernel
theorem dL_law_775 : decode cL_law 775 = .ok (.aload_n 0, 1) := by decide +kernel
theorem dL_law_776 : decode cL_law 776 = .ok (.iload_n 3, 1) := by decide +kernel
theorem dL_law_777 : decode cL_law 777 = .ok (.iconst 2, 1) := by decide +kernel
theorem dL_law_778 : decode cL_law 778 = .ok (.iadd, 1) := by decide +kernel
theorem dL_law_779 : decode cL_law 779 = .ok (.iaload, 1) := by decide +kernel
theorem dL_law_780 : decode cL_law 780 = .ok (.invokevirtual 86, 3) := by decide +kernel
theorem dL_law_783 : decode cL_law 783 = .ok (.aload_n 2, 1) := by decide +kernel
theorem dL_law_784 : decode cL_law 784 = .ok (.aload_n 0, 1) := by decide +kernel
theorem dL_law_785 : decode cL_law 785 = .ok (.iload_n 3, 1) := by decide +kernel
theorem dL_law_786 : decode cL_law 786 = .ok (.iconst 1, 1) := by decide +kernel
theorem dL_law_787 : decode cL_law 787 = .ok (.iadd, 1) := by decide +kernel
theorem dL_law_788 : decode cL_law 788 = .ok (.iaload, 1) := by decide +kernel
theorem dL_law_789 : decode cL_law 789 = .ok (.aload_n 0, 1) := by decide +kernel
theorem dL_law_790 : decode cL_law 790 = .ok (.iload_n 3, 1) := by decide +kernel
theorem dL_law_791 : decode cL_law 791 = .ok (.iconst 2, 1) := by decide +kernel
theorem dL_law_792 : decode cL_law 792 = .ok (.iadd, 1) := by decide +kernel
theorem dL_law_793 : decode cL_law 793 = .ok (.iaload, 1) := by decide +kernel
theorem dL_law_794 : decode cL_law 794 = .ok (.invokevirtual 89, 3) := by decide +kernel
theorem dL_law_797 : decode cL_law 797 = .ok (.if_icmp .eq 535, 3) := by decide +kernel
theorem dL_law_800 : decode cL_law 800 = .ok (.iconst 0, 1) := by decide +kernel
theorem dL_law_801 : decode cL_law 801 = .ok (.ireturn, 1) := by decide +kernel
theorem dL_law_802 : decode cL_law 802 = .ok (.aload_n 1, 1) := by decide +kernel
theorem dL_law_803 : decode cL_law 803 = .ok (.aload_n 0, 1) := by decide +kernel
theorem dL_law_804 : decode cL_law 804 = .ok (.iload_n 3, 1) := by decide +kernel
theorem dL_law_805 : decode cL_law 805 = .ok (.iconst 1, 1) := by decide +kernel
theorem dL_law_806 : decode cL_law 806 = .ok (.iadd, 1) := by decide +kernel
theorem dL_law_807 : decode cL_law 807 = .ok (.iaload, 1) := by decide +kernel
theorem dL_law_808 : decode cL_law 808 = .ok (.aload_n 0, 1) := by decide +kernel
theorem dL_law_809 : decode cL_law 809 = .ok (.iload_n 3, 1) := by decide +kernel
theorem dL_law_810 : decode cL_law 810 = .ok (.iconst 2, 1) := by decide +kernel
theorem dL_law_811 : decode cL_law 811 = .ok (.iadd, 1) := by decide +kernel
theorem dL_law_812 : decode cL_law 812 = .ok (.iaload, 1) := by decide +kernel
theorem dL_law_813 : decode cL_law 813 = .ok (.aload_n 0, 1) := by decide +kernel
theorem dL_law_814 : decode cL_law 814 = .ok (.iload_n 3, 1) := by decide +kernel
theorem dL_law_815 : decode cL_law 815 = .ok (.iconst 3, 1) := by decide +kernel
theorem dL_law_816 : decode cL_law 816 = .ok (.iadd, 1) := by decide +kernel
theorem dL_law_817 : decode cL_law 817 = .ok (.iaload, 1) := by decide +kernel
theorem dL_law_818 : decode cL_law 818 = .ok (.invokevirtual 90, 3) := by decide +kernel
theorem dL_law_821 : decode cL_law 821 = .ok (.aload_n 2, 1) := by decide +kernel
theorem dL_law_822 : decode cL_law 822 = .ok (.aload_n 0, 1) := by decide +kernel
theorem dL_law_823 : decode cL_law 823 = .ok (.iload_n 3, 1) := by decide +kernel
theorem dL_law_824 : decode cL_law 824 = .ok (.iconst 1, 1) := by decide +kernel
theorem dL_law_825 : decode cL_law 825 = .ok (.iadd, 1) := by decide +kernel
theorem dL_law_826 : decode cL_law 826 = .ok (.iaload, 1) := by decide +kernel
theorem dL_law_827 : decode cL_law 827 = .ok (.aload_n 0, 1) := by decide +kernel
theorem dL_law_828 : decode cL_law 828 = .ok (.iload_n 3, 1) := by decide +kernel
theorem dL_law_829 : decode cL_law 829 = .ok (.iconst 2, 1) := by decide +kernel
theorem dL_law_830 : decode cL_law 830 = .ok (.iadd, 1) := by decide +kernel
theorem dL_law_831 : decode cL_law 831 = .ok (.iaload, 1) := by decide +kernel
theorem dL_law_832 : decode cL_law 832 = .ok (.aload_n 0, 1) := by decide +kernel
theorem dL_law_833 : decode cL_law 833 = .ok (.iload_n 3, 1) := by decide +kernel
theorem dL_law_834 : decode cL_law 834 = .ok (.iconst 3, 1) := by decide +kernel
theorem dL_law_835 : decode cL_law 835 = .ok (.iadd, 1) := by decide +kernel
theorem dL_law_836 : decode cL_law 836 = .ok (.iaload, 1) := by decide +kernel
theorem dL_law_837 : decode cL_law 837 = .ok (.invokevirtual 94, 3) := by decide +kernel
theorem dL_law_840 : decode cL_law 840 = .ok (.if_icmp .eq 492, 3) := by decide +kernel
theorem dL_law_843 : decode cL_law 843 = .ok (.iconst 0, 1) := by decide +kernel
theorem dL_law_844 : decode cL_law 844 = .ok (.ireturn, 1) := by decide +kernel
theorem dL_law_845 : decode cL_law 845 = .ok (.aload_n 1, 1) := by decide +kernel
theorem dL_law_846 : decode cL_law 846 = .ok (.aload_n 0, 1) := by decide +kernel
theorem dL_law_847 : decode cL_law 847 = .ok (.iload_n 3, 1) := by decide +kernel
theorem dL_law_848 : decode cL_law 848 = .ok (.iconst 1, 1) := by decide +kernel
theorem dL_law_849 : decode cL_law 849 = .ok (.iadd, 1) := by decide +kernel
theorem dL_law_850 : decode cL_law 850 = .ok (.iaload, 1) := by decide +kernel
theorem dL_law_851 : decode cL_law 851 = .ok (.aload_n 0, 1) := by decide +kernel
theorem dL_law_852 : decode cL_law 852 = .ok (.iload_n 3, 1) := by decide +kernel
theorem dL_law_853 : decode cL_law 853 = .ok (.iconst 2, 1) := by decide +kernel
theorem dL_law_854 : decode cL_law 854 = .ok (.iadd, 1) := by decide +kernel
theorem dL_law_855 : decode cL_law 855 = .ok (.iaload, 1) := by decide +kernel
theorem dL_law_856 : decode cL_law 856 = .ok (.aload_n 0, 1) := by decide +kernel
theorem dL_law_857 : decode cL_law 857 = .ok (.iload_n 3, 1) := by decide +kernel
theorem dL_law_858 : decode cL_law 858 = .ok (.iconst 3, 1) := by decide +kernel
theorem dL_law_859 : decode cL_law 859 = .ok (.iadd, 1) := by decide +kernel
theorem dL_law_860 : decode cL_law 860 = .ok (.iaload, 1) := by decide +kernel
theorem dL_law_861 : decode cL_law 861 = .ok (.invokevirtual 95, 3) := by decide +kernel
theorem dL_law_864 : decode cL_law 864 = .ok (.aload_n 2, 1) := by decide +kernel
theorem dL_law_865 : decode cL_law 865 = .ok (.aload_n 0, 1) := by decide +kernel
theorem dL_law_866 : decode cL_law 866 = .ok (.iload_n 3, 1) := by decide +kernel
theorem dL_law_867 : decode cL_law 867 = .ok (.iconst 1, 1) := by decide +kernel
theorem dL_law_868 : decode cL_law 868 = .ok (.iadd, 1) := by decide +kernel
theorem dL_law_869 : decode cL_law 869 = .ok (.iaload, 1) := by decide +kernel
theorem dL_law_870 : decode cL_law 870 = .ok (.aload_n 0, 1) := by decide +kernel
theorem dL_law_871 : decode cL_law 871 = .ok (.iload_n 3, 1) := by decide +kernel
theorem dL_law_872 : decode cL_law 872 = .ok (.iconst 2, 1) := by decide +kernel
theorem dL_law_873 : decode cL_law 873 = .ok (.iadd, 1) := by decide +kernel
theorem dL_law_874 : decode cL_law 874 = .ok (.iaload, 1) := by decide +kernel
theorem dL_law_875 : decode cL_law 875 = .ok (.aload_n 0, 1) := by decide +kernel
theorem dL_law_876 : decode cL_law 876 = .ok (.iload_n 3, 1) := by decide +kernel
theorem dL_law_877 : decode cL_law 877 = .ok (.iconst 3, 1) := by decide +kernel
theorem dL_law_878 : decode cL_law 878 = .ok (.iadd, 1) := by decide +kernel
theorem dL_law_879 : decode cL_law 879 = .ok (.iaload, 1) := by decide +kernel
theorem dL_law_880 : decode cL_law 880 = .ok (.invokevirtual 98, 3) := by decide +kernel
theorem dL_law_883 : decode cL_law 883 = .ok (.if_icmp .eq 449, 3) := by decide +kernel
theorem dL_law_886 : decode cL_law 886 = .ok (.iconst 0, 1) := by decide +kernel
theorem dL_law_887 : decode cL_law 887 = .ok (.ireturn, 1) := by decide +kernel
theorem dL_law_888 : decode cL_law 888 = .ok (.aload_n 1, 1) := by decide +kernel
theorem dL_law_889 : decode cL_law 889 = .ok (.aload_n 0, 1) := by decide +kernel
theorem dL_law_890 : decode cL_law 890 = .ok (.iload_n 3, 1) := by decide +kernel
theorem dL_law_891 : decode cL_law 891 = .ok (.iconst 1, 1) := by decide +kernel
theorem dL_law_892 : decode cL_law 892 = .ok (.iadd, 1) := by decide +kernel
theorem dL_law_893 : decode cL_law 893 = .ok (.iaload, 1) := by decide +kernel
theorem dL_law_894 : decode cL_law 894 = .ok (.aload_n 0, 1) := by decide +kernel
theorem dL_law_895 : decode cL_law 895 = .ok (.iload_n 3, 1) := by decide +kernel
theorem dL_law_896 : decode cL_law 896 = .ok (.iconst 2, 1) := by decide +kernel
theorem dL_law_897 : decode cL_law 897 = .ok (.iadd, 1) := by decide +kernel
theorem dL_law_898 : decode cL_law 898 = .ok (.iaload, 1) := by decide +kernel
theorem dL_law_899 : decode cL_law 899 = .ok (.invokevirtual 99, 3) := by decide +kernel
theorem dL_law_902 : decode cL_law 902 = .ok (.aload_n 2, 1) := by decide +kernel
theorem dL_law_903 : decode cL_law 903 = .ok (.aload_n 0, 1) := by decide +kernel
theorem dL_law_904 : decode cL_law 904 = .ok (.iload_n 3, 1) := by decide +kernel
theorem dL_law_905 : decode cL_law 905 = .ok (.iconst 1, 1) := by decide +kernel
theorem dL_law_906 : decode cL_law 906 = .ok (.iadd, 1) := by decide +kernel
theorem dL_law_907 : decode cL_law 907 = .ok (.iaload, 1) := by decide +kernel
theorem dL_law_908 : decode cL_law 908 = .ok (.aload_n 0, 1) := by decide +kernel
theorem dL_law_909 : decode cL_law 909 = .ok (.iload_n 3, 1) := by decide +kernel
theorem dL_law_910 : decode cL_law 910 = .ok (.iconst 2, 1) := by decide +kernel
theorem dL_law_911 : decode cL_law 911 = .ok (.iadd, 1) := by decide +kernel
theorem dL_law_912 : decode cL_law 912 = .ok (.iaload, 1) := by decide +kernel
theorem dL_law_913 : decode cL_law 913 = .ok (.invokevirtual 102, 3) := by decide +kernel
theorem dL_law_916 : decode cL_law 916 = .ok (.lcmp, 1) := by decide +kernel
theorem dL_law_917 : decode cL_law 917 = .ok (.ifCond .eq 415, 3) := by decide +kernel
theorem dL_law_920 : decode cL_law 920 = .ok (.iconst 0, 1) := by decide +kernel
theorem dL_law_921 : decode cL_law 921 = .ok (.ireturn, 1) := by decide +kernel
theorem dL_law_922 : decode cL_law 922 = .ok (.aload_n 1, 1) := by decide +kernel
theorem dL_law_923 : decode cL_law 923 = .ok (.aload_n 0, 1) := by decide +kernel
theorem dL_law_924 : decode cL_law 924 = .ok (.iload_n 3, 1) := by decide +kernel
theorem dL_law_925 : decode cL_law 925 = .ok (.iconst 1, 1) := by decide +kernel
theorem dL_law_926 : decode cL_law 926 = .ok (.iadd, 1) := by decide +kernel
theorem dL_law_927 : decode cL_law 927 = .ok (.iaload, 1) := by decide +kernel
theorem dL_law_928 : decode cL_law 928 = .ok (.aload_n 0, 1) := by decide +kernel
theorem dL_law_929 : decode cL_law 929 = .ok (.iload_n 3, 1) := by decide +kernel
theorem dL_law_930 : decode cL_law 930 = .ok (.iconst 2, 1) := by decide +kernel
theorem dL_law_931 : decode cL_law 931 = .ok (.iadd, 1) := by decide +kernel
theorem dL_law_932 : decode cL_law 932 = .ok (.iaload, 1) := by decide +kernel
theorem dL_law_933 : decode cL_law 933 = .ok (.invokevirtual 103, 3) := by decide +kernel
theorem dL_law_936 : decode cL_law 936 = .ok (.aload_n 2, 1) := by decide +kernel
theorem dL_law_937 : decode cL_law 937 = .ok (.aload_n 0, 1) := by decide +kernel
theorem dL_law_938 : decode cL_law 938 = .ok (.iload_n 3, 1) := by decide +kernel
theorem dL_law_939 : decode cL_law 939 = .ok (.iconst 1, 1) := by decide +kernel
theorem dL_law_940 : decode cL_law 940 = .ok (.iadd, 1) := by decide +kernel
theorem dL_law_941 : decode cL_law 941 = .ok (.iaload, 1) := by decide +kernel
theorem dL_law_942 : decode cL_law 942 = .ok (.aload_n 0, 1) := by decide +kernel
theorem dL_law_943 : decode cL_law 943 = .ok (.iload_n 3, 1) := by decide +kernel
theorem dL_law_944 : decode cL_law 944 = .ok (.iconst 2, 1) := by decide +kernel
theorem dL_law_945 : decode cL_law 945 = .ok (.iadd, 1) := by decide +kernel
theorem dL_law_946 : decode cL_law 946 = .ok (.iaload, 1) := by decide +kernel
theorem dL_law_947 : decode cL_law 947 = .ok (.invokevirtual 106, 3) := by decide +kernel
theorem dL_law_950 : decode cL_law 950 = .ok (.if_icmp .eq 382, 3) := by decide +kernel
theorem dL_law_953 : decode cL_law 953 = .ok (.iconst 0, 1) := by decide +kernel
theorem dL_law_954 : decode cL_law 954 = .ok (.ireturn, 1) := by decide +kernel
theorem dL_law_955 : decode cL_law 955 = .ok (.aload_n 1, 1) := by decide +kernel
theorem dL_law_956 : decode cL_law 956 = .ok (.aload_n 0, 1) := by decide +kernel
theorem dL_law_957 : decode cL_law 957 = .ok (.iload_n 3, 1) := by decide +kernel
theorem dL_law_958 : decode cL_law 958 = .ok (.iconst 1, 1) := by decide +kernel
theorem dL_law_959 : decode cL_law 959 = .ok (.iadd, 1) := by decide +kernel
theorem dL_law_960 : decode cL_law 960 = .ok (.iaload, 1) := by decide +kernel
theorem dL_law_961 : decode cL_law 961 = .ok (.aload_n 0, 1) := by decide +kernel
theorem dL_law_962 : decode cL_law 962 = .ok (.iload_n 3, 1) := by decide +kernel
theorem dL_law_963 : decode cL_law 963 = .ok (.iconst 2, 1) := by decide +kernel
theorem dL_law_964 : decode cL_law 964 = .ok (.iadd, 1) := by decide +kernel
theorem dL_law_965 : decode cL_law 965 = .ok (.iaload, 1) := by decide +kernel
theorem dL_law_966 : decode cL_law 966 = .ok (.invokevirtual 107, 3) := by decide +kernel
theorem dL_law_969 : decode cL_law 969 = .ok (.aload_n 2, 1) := by decide +kernel
theorem dL_law_970 : decode cL_law 970 = .ok (.aload_n 0, 1) := by decide +kernel
theorem dL_law_971 : decode cL_law 971 = .ok (.iload_n 3, 1) := by decide +kernel
theorem dL_law_972 : decode cL_law 972 = .ok (.iconst 1, 1) := by decide +kernel
theorem dL_law_973 : decode cL_law 973 = .ok (.iadd, 1) := by decide +kernel
theorem dL_law_974 : decode cL_law 974 = .ok (.iaload, 1) := by decide +kernel
theorem dL_law_975 : decode cL_law 975 = .ok (.aload_n 0, 1) := by decide +kernel
theorem dL_law_976 : decode cL_law 976 = .ok (.iload_n 3, 1) := by decide +kernel
theorem dL_law_977 : decode cL_law 977 = .ok (.iconst 2, 1) := by decide +kernel
theorem dL_law_978 : decode cL_law 978 = .ok (.iadd, 1) := by decide +kernel
theorem dL_law_979 : decode cL_law 979 = .ok (.iaload, 1) := by decide +kernel
theorem dL_law_980 : decode cL_law 980 = .ok (.invokevirtual 110, 3) := by decide +kernel
theorem dL_law_983 : decode cL_law 983 = .ok (.if_icmp .eq 349, 3) := by decide +kernel
theorem dL_law_986 : decode cL_law 986 = .ok (.iconst 0, 1) := by decide +kernel
theorem dL_law_987 : decode cL_law 987 = .ok (.ireturn, 1) := by decide +kernel
theorem dL_law_988 : decode cL_law 988 = .ok (.aload_n 1, 1) := by decide +kernel
theorem dL_law_989 : decode cL_law 989 = .ok (.aload_n 0, 1) := by decide +kernel
theorem dL_law_990 : decode cL_law 990 = .ok (.iload_n 3, 1) := by decide +kernel
theorem dL_law_991 : decode cL_law 991 = .ok (.iconst 1, 1) := by decide +kernel
theorem dL_law_992 : decode cL_law 992 = .ok (.iadd, 1) := by decide +kernel
theorem dL_law_993 : decode cL_law 993 = .ok (.iaload, 1) := by decide +kernel
theorem dL_law_994 : decode cL_law 994 = .ok (.aload_n 0, 1) := by decide +kernel
theorem dL_law_995 : decode cL_law 995 = .ok (.iload_n 3, 1) := by decide +kernel
theorem dL_law_996 : decode cL_law 996 = .ok (.iconst 2, 1) := by decide +kernel
theorem dL_law_997 : decode cL_law 997 = .ok (.iadd, 1) := by decide +kernel
theorem dL_law_998 : decode cL_law 998 = .ok (.iaload, 1) := by decide +kernel
theorem dL_law_999 : decode cL_law 999 = .ok (.aload_n 0, 1) := by decide +kernel
theorem dL_law_1000 : decode cL_law 1000 = .ok (.iload_n 3, 1) := by decide +kernel
theorem dL_law_1001 : decode cL_law 1001 = .ok (.iconst 3, 1) := by decide +kernel
theorem dL_law_1002 : decode cL_law 1002 = .ok (.iadd, 1) := by decide +kernel
theorem dL_law_1003 : decode cL_law 1003 = .ok (.iaload, 1) := by decide +kernel
theorem dL_law_1004 : decode cL_law 1004 = .ok (.invokevirtual 111, 3) := by decide +kernel
theorem dL_law_1007 : decode cL_law 1007 = .ok (.aload_n 2, 1) := by decide +kernel
theorem dL_law_1008 : decode cL_law 1008 = .ok (.aload_n 0, 1) := by decide +kernel
theorem dL_law_1009 : decode cL_law 1009 = .ok (.iload_n 3, 1) := by decide +kernel
theorem dL_law_1010 : decode cL_law 1010 = .ok (.iconst 1, 1) := by decide +kernel
theorem dL_law_1011 : decode cL_law 1011 = .ok (.iadd, 1) := by decide +kernel
theorem dL_law_1012 : decode cL_law 1012 = .ok (.iaload, 1) := by decide +kernel
theorem dL_law_1013 : decode cL_law 1013 = .ok (.aload_n 0, 1) := by decide +kernel
theorem dL_law_1014 : decode cL_law 1014 = .ok (.iload_n 3, 1) := by decide +kernel
theorem dL_law_1015 : decode cL_law 1015 = .ok (.iconst 2, 1) := by decide +kernel
theorem dL_law_1016 : decode cL_law 1016 = .ok (.iadd, 1) := by decide +kernel
theorem dL_law_1017 : decode cL_law 1017 = .ok (.iaload, 1) := by decide +kernel
theorem dL_law_1018 : decode cL_law 1018 = .ok (.aload_n 0, 1) := by decide +kernel
theorem dL_law_1019 : decode cL_law 1019 = .ok (.iload_n 3, 1) := by decide +kernel
theorem dL_law_1020 : decode cL_law 1020 = .ok (.iconst 3, 1) := by decide +kernel
theorem dL_law_1021 : decode cL_law 1021 = .ok (.iadd, 1) := by decide +kernel
theorem dL_law_1022 : decode cL_law 1022 = .ok (.iaload, 1) := by decide +kernel
theorem dL_law_1023 : decode cL_law 1023 = .ok (.invokevirtual 114, 3) := by decide +kernel
theorem dL_law_1026 : decode cL_law 1026 = .ok (.if_icmp .eq 306, 3) := by decide +kernel
theorem dL_law_1029 : decode cL_law 1029 = .ok (.iconst 0, 1) := by decide +kernel
theorem dL_law_1030 : decode cL_law 1030 = .ok (.ireturn, 1) := by decide +kernel
theorem dL_law_1031 : decode cL_law 1031 = .ok (.aload_n 1, 1) := by decide +kernel
theorem dL_law_1032 : decode cL_law 1032 = .ok (.aload_n 0, 1) := by decide +kernel
theorem dL_law_1033 : decode cL_law 1033 = .ok (.iload_n 3, 1) := by decide +kernel
theorem dL_law_1034 : decode cL_law 1034 = .ok (.iconst 1, 1) := by decide +kernel
theorem dL_law_1035 : decode cL_law 1035 = .ok (.iadd, 1) := by decide +kernel
theorem dL_law_1036 : decode cL_law 1036 = .ok (.iaload, 1) := by decide +kernel
theorem dL_law_1037 : decode cL_law 1037 = .ok (.invokevirtual 115, 3) := by decide +kernel
theorem dL_law_1040 : decode cL_law 1040 = .ok (.aload_n 2, 1) := by decide +kernel
theorem dL_law_1041 : decode cL_law 1041 = .ok (.aload_n 0, 1) := by decide +kernel
theorem dL_law_1042 : decode cL_law 1042 = .ok (.iload_n 3, 1) := by decide +kernel
theorem dL_law_1043 : decode cL_law 1043 = .ok (.iconst 1, 1) := by decide +kernel
theorem dL_law_1044 : decode cL_law 1044 = .ok (.iadd, 1) := by decide +kernel
theorem dL_law_1045 : decode cL_law 1045 = .ok (.iaload, 1) := by decide +kernel
theorem dL_law_1046 : decode cL_law 1046 = .ok (.invokevirtual 118, 3) := by decide +kernel
theorem dL_law_1049 : decode cL_law 1049 = .ok (.if_icmp .eq 283, 3) := by decide +kernel
theorem dL_law_1052 : decode cL_law 1052 = .ok (.iconst 0, 1) := by decide +kernel
theorem dL_law_1053 : decode cL_law 1053 = .ok (.ireturn, 1) := by decide +kernel
theorem dL_law_1054 : decode cL_law 1054 = .ok (.aload_n 1, 1) := by decide +kernel
theorem dL_law_1055 : decode cL_law 1055 = .ok (.aload_n 0, 1) := by decide +kernel
theorem dL_law_1056 : decode cL_law 1056 = .ok (.iload_n 3, 1) := by decide +kernel
theorem dL_law_1057 : decode cL_law 1057 = .ok (.iconst 1, 1) := by decide +kernel
theorem dL_law_1058 : decode cL_law 1058 = .ok (.iadd, 1) := by decide +kernel
theorem dL_law_1059 : decode cL_law 1059 = .ok (.iaload, 1) := by decide +kernel
theorem dL_law_1060 : decode cL_law 1060 = .ok (.aload_n 0, 1) := by decide +kernel
theorem dL_law_1061 : decode cL_law 1061 = .ok (.iload_n 3, 1) := by decide +kernel
theorem dL_law_1062 : decode cL_law 1062 = .ok (.iconst 2, 1) := by decide +kernel
theorem dL_law_1063 : decode cL_law 1063 = .ok (.iadd, 1) := by decide +kernel
theorem dL_law_1064 : decode cL_law 1064 = .ok (.iaload, 1) := by decide +kernel
theorem dL_law_1065 : decode cL_law 1065 = .ok (.aload_n 0, 1) := by decide +kernel
theorem dL_law_1066 : decode cL_law 1066 = .ok (.iload_n 3, 1) := by decide +kernel
theorem dL_law_1067 : decode cL_law 1067 = .ok (.iconst 3, 1) := by decide +kernel
theorem dL_law_1068 : decode cL_law 1068 = .ok (.iadd, 1) := by decide +kernel
theorem dL_law_1069 : decode cL_law 1069 = .ok (.iaload, 1) := by decide +kernel
theorem dL_law_1070 : decode cL_law 1070 = .ok (.invokevirtual 119, 3) := by decide +kernel
theorem dL_law_1073 : decode cL_law 1073 = .ok (.aload_n 2, 1) := by decide +kernel
theorem dL_law_1074 : decode cL_law 1074 = .ok (.aload_n 0, 1) := by decide +kernel
theorem dL_law_1075 : decode cL_law 1075 = .ok (.iload_n 3, 1) := by decide +kernel
theorem dL_law_1076 : decode cL_law 1076 = .ok (.iconst 1, 1) := by decide +kernel
theorem dL_law_1077 : decode cL_law 1077 = .ok (.iadd, 1) := by decide +kernel
theorem dL_law_1078 : decode cL_law 1078 = .ok (.iaload, 1) := by decide +kernel
theorem dL_law_1079 : decode cL_law 1079 = .ok (.aload_n 0, 1) := by decide +kernel
theorem dL_law_1080 : decode cL_law 1080 = .ok (.iload_n 3, 1) := by decide +kernel
theorem dL_law_1081 : decode cL_law 1081 = .ok (.iconst 2, 1) := by decide +kernel
theorem dL_law_1082 : decode cL_law 1082 = .ok (.iadd, 1) := by decide +kernel
theorem dL_law_1083 : decode cL_law 1083 = .ok (.iaload, 1) := by decide +kernel
theorem dL_law_1084 : decode cL_law 1084 = .ok (.aload_n 0, 1) := by decide +kernel
theorem dL_law_1085 : decode cL_law 1085 = .ok (.iload_n 3, 1) := by decide +kernel
theorem dL_law_1086 : decode cL_law 1086 = .ok (.iconst 3, 1) := by decide +kernel
theorem dL_law_1087 : decode cL_law 1087 = .ok (.iadd, 1) := by decide +kernel
theorem dL_law_1088 : decode cL_law 1088 = .ok (.iaload, 1) := by decide +kernel
theorem dL_law_1089 : decode cL_law 1089 = .ok (.invokevirtual 122, 3) := by decide +kernel
theorem dL_law_1092 : decode cL_law 1092 = .ok (.if_icmp .eq 240, 3) := by decide +kernel
theorem dL_law_1095 : decode cL_law 1095 = .ok (.iconst 0, 1) := by decide +kernel
theorem dL_law_1096 : decode cL_law 1096 = .ok (.ireturn, 1) := by decide +kernel
theorem dL_law_1097 : decode cL_law 1097 = .ok (.aload_n 1, 1) := by decide +kernel
theorem dL_law_1098 : decode cL_law 1098 = .ok (.aload_n 0, 1) := by decide +kernel
theorem dL_law_1099 : decode cL_law 1099 = .ok (.iload_n 3, 1) := by decide +kernel
theorem dL_law_1100 : decode cL_law 1100 = .ok (.iconst 1, 1) := by decide +kernel
theorem dL_law_1101 : decode cL_law 1101 = .ok (.iadd, 1) := by decide +kernel
theorem dL_law_1102 : decode cL_law 1102 = .ok (.iaload, 1) := by decide +kernel
theorem dL_law_1103 : decode cL_law 1103 = .ok (.aload_n 0, 1) := by decide +kernel
theorem dL_law_1104 : decode cL_law 1104 = .ok (.iload_n 3, 1) := by decide +kernel
theorem dL_law_1105 : decode cL_law 1105 = .ok (.iconst 2, 1) := by decide +kernel
theorem dL_law_1106 : decode cL_law 1106 = .ok (.iadd, 1) := by decide +kernel
theorem dL_law_1107 : decode cL_law 1107 = .ok (.iaload, 1) := by decide +kernel
theorem dL_law_1108 : decode cL_law 1108 = .ok (.aload_n 0, 1) := by decide +kernel
theorem dL_law_1109 : decode cL_law 1109 = .ok (.iload_n 3, 1) := by decide +kernel
theorem dL_law_1110 : decode cL_law 1110 = .ok (.iconst 3, 1) := by decide +kernel
theorem dL_law_1111 : decode cL_law 1111 = .ok (.iadd, 1) := by decide +kernel
theorem dL_law_1112 : decode cL_law 1112 = .ok (.iaload, 1) := by decide +kernel
theorem dL_law_1113 : decode cL_law 1113 = .ok (.invokevirtual 123, 3) := by decide +kernel
theorem dL_law_1116 : decode cL_law 1116 = .ok (.aload_n 2, 1) := by decide +kernel
theorem dL_law_1117 : decode cL_law 1117 = .ok (.aload_n 0, 1) := by decide +kernel
theorem dL_law_1118 : decode cL_law 1118 = .ok (.iload_n 3, 1) := by decide +kernel
theorem dL_law_1119 : decode cL_law 1119 = .ok (.iconst 1, 1) := by decide +kernel
theorem dL_law_1120 : decode cL_law 1120 = .ok (.iadd, 1) := by decide +kernel
theorem dL_law_1121 : decode cL_law 1121 = .ok (.iaload, 1) := by decide +kernel
theorem dL_law_1122 : decode cL_law 1122 = .ok (.aload_n 0, 1) := by decide +kernel
theorem dL_law_1123 : decode cL_law 1123 = .ok (.iload_n 3, 1) := by decide +kernel
theorem dL_law_1124 : decode cL_law 1124 = .ok (.iconst 2, 1) := by decide +kernel
theorem dL_law_1125 : decode cL_law 1125 = .ok (.iadd, 1) := by decide +kernel
theorem dL_law_1126 : decode cL_law 1126 = .ok (.iaload, 1) := by decide +kernel
theorem dL_law_1127 : decode cL_law 1127 = .ok (.aload_n 0, 1) := by decide +kernel
theorem dL_law_1128 : decode cL_law 1128 = .ok (.iload_n 3, 1) := by decide +kernel
theorem dL_law_1129 : decode cL_law 1129 = .ok (.iconst 3, 1) := by decide +kernel
theorem dL_law_1130 : decode cL_law 1130 = .ok (.iadd, 1) := by decide +kernel
theorem dL_law_1131 : decode cL_law 1131 = .ok (.iaload, 1) := by decide +kernel
theorem dL_law_1132 : decode cL_law 1132 = .ok (.invokevirtual 127, 3) := by decide +kernel
theorem dL_law_1135 : decode cL_law 1135 = .ok (.lcmp, 1) := by decide +kernel
theorem dL_law_1136 : decode cL_law 1136 = .ok (.ifCond .eq 196, 3) := by decide +kernel
theorem dL_law_1139 : decode cL_law 1139 = .ok (.iconst 0, 1) := by decide +kernel
theorem dL_law_1140 : decode cL_law 1140 = .ok (.ireturn, 1) := by decide +kernel
theorem dL_law_1141 : decode cL_law 1141 = .ok (.aload_n 1, 1) := by decide +kernel
theorem dL_law_1142 : decode cL_law 1142 = .ok (.aload_n 0, 1) := by decide +kernel
theorem dL_law_1143 : decode cL_law 1143 = .ok (.iload_n 3, 1) := by decide +kernel
theorem dL_law_1144 : decode cL_law 1144 = .ok (.iconst 1, 1) := by decide +kernel
theorem dL_law_1145 : decode cL_law 1145 = .ok (.iadd, 1) := by decide +kernel
theorem dL_law_1146 : decode cL_law 1146 = .ok (.iaload, 1) := by decide +kernel
theorem dL_law_1147 : decode cL_law 1147 = .ok (.aload_n 0, 1) := by decide +kernel
theorem dL_law_1148 : decode cL_law 1148 = .ok (.iload_n 3, 1) := by decide +kernel
theorem dL_law_1149 : decode cL_law 1149 = .ok (.iconst 2, 1) := by decide +kernel
theorem dL_law_1150 : decode cL_law 1150 = .ok (.iadd, 1) := by decide +kernel
theorem dL_law_1151 : decode cL_law 1151 = .ok (.iaload, 1) := by decide +kernel
theorem dL_law_1152 : decode cL_law 1152 = .ok (.aload_n 0, 1) := by decide +kernel
theorem dL_law_1153 : decode cL_law 1153 = .ok (.iload_n 3, 1) := by decide +kernel
theorem dL_law_1154 : decode cL_law 1154 = .ok (.iconst 3, 1) := by decide +kernel
theorem dL_law_1155 : decode cL_law 1155 = .ok (.iadd, 1) := by decide +kernel
theorem dL_law_1156 : decode cL_law 1156 = .ok (.iaload, 1) := by decide +kernel
theorem dL_law_1157 : decode cL_law 1157 = .ok (.aload_n 0, 1) := by decide +kernel
theorem dL_law_1158 : decode cL_law 1158 = .ok (.iload_n 3, 1) := by decide +kernel
theorem dL_law_1159 : decode cL_law 1159 = .ok (.iconst 4, 1) := by decide +kernel
theorem dL_law_1160 : decode cL_law 1160 = .ok (.iadd, 1) := by decide +kernel
theorem dL_law_1161 : decode cL_law 1161 = .ok (.iaload, 1) := by decide +kernel
theorem dL_law_1162 : decode cL_law 1162 = .ok (.aload_n 0, 1) := by decide +kernel
theorem dL_law_1163 : decode cL_law 1163 = .ok (.iload_n 3, 1) := by decide +kernel
theorem dL_law_1164 : decode cL_law 1164 = .ok (.iconst 5, 1) := by decide +kernel
theorem dL_law_1165 : decode cL_law 1165 = .ok (.iadd, 1) := by decide +kernel
theorem dL_law_1166 : decode cL_law 1166 = .ok (.iaload, 1) := by decide +kernel
theorem dL_law_1167 : decode cL_law 1167 = .ok (.invokevirtual 128, 3) := by decide +kernel
theorem dL_law_1170 : decode cL_law 1170 = .ok (.aload_n 2, 1) := by decide +kernel
theorem dL_law_1171 : decode cL_law 1171 = .ok (.aload_n 0, 1) := by decide +kernel
theorem dL_law_1172 : decode cL_law 1172 = .ok (.iload_n 3, 1) := by decide +kernel
theorem dL_law_1173 : decode cL_law 1173 = .ok (.iconst 1, 1) := by decide +kernel
theorem dL_law_1174 : decode cL_law 1174 = .ok (.iadd, 1) := by decide +kernel
theorem dL_law_1175 : decode cL_law 1175 = .ok (.iaload, 1) := by decide +kernel
theorem dL_law_1176 : decode cL_law 1176 = .ok (.aload_n 0, 1) := by decide +kernel
theorem dL_law_1177 : decode cL_law 1177 = .ok (.iload_n 3, 1) := by decide +kernel
theorem dL_law_1178 : decode cL_law 1178 = .ok (.iconst 2, 1) := by decide +kernel
theorem dL_law_1179 : decode cL_law 1179 = .ok (.iadd, 1) := by decide +kernel
theorem dL_law_1180 : decode cL_law 1180 = .ok (.iaload, 1) := by decide +kernel
theorem dL_law_1181 : decode cL_law 1181 = .ok (.aload_n 0, 1) := by decide +kernel
theorem dL_law_1182 : decode cL_law 1182 = .ok (.iload_n 3, 1) := by decide +kernel
theorem dL_law_1183 : decode cL_law 1183 = .ok (.iconst 3, 1) := by decide +kernel
theorem dL_law_1184 : decode cL_law 1184 = .ok (.iadd, 1) := by decide +kernel
theorem dL_law_1185 : decode cL_law 1185 = .ok (.iaload, 1) := by decide +kernel
theorem dL_law_1186 : decode cL_law 1186 = .ok (.aload_n 0, 1) := by decide +kernel
theorem dL_law_1187 : decode cL_law 1187 = .ok (.iload_n 3, 1) := by decide +kernel
theorem dL_law_1188 : decode cL_law 1188 = .ok (.iconst 4, 1) := by decide +kernel
theorem dL_law_1189 : decode cL_law 1189 = .ok (.iadd, 1) := by decide +kernel
theorem dL_law_1190 : decode cL_law 1190 = .ok (.iaload, 1) := by decide +kernel
theorem dL_law_1191 : decode cL_law 1191 = .ok (.aload_n 0, 1) := by decide +kernel
theorem dL_law_1192 : decode cL_law 1192 = .ok (.iload_n 3, 1) := by decide +kernel
theorem dL_law_1193 : decode cL_law 1193 = .ok (.iconst 5, 1) := by decide +kernel
theorem dL_law_1194 : decode cL_law 1194 = .ok (.iadd, 1) := by decide +kernel
theorem dL_law_1195 : decode cL_law 1195 = .ok (.iaload, 1) := by decide +kernel
theorem dL_law_1196 : decode cL_law 1196 = .ok (.invokevirtual 131, 3) := by decide +kernel
theorem dL_law_1199 : decode cL_law 1199 = .ok (.if_icmp .eq 133, 3) := by decide +kernel
theorem dL_law_1202 : decode cL_law 1202 = .ok (.iconst 0, 1) := by decide +kernel
theorem dL_law_1203 : decode cL_law 1203 = .ok (.ireturn, 1) := by decide +kernel
theorem dL_law_1204 : decode cL_law 1204 = .ok (.aload_n 1, 1) := by decide +kernel
theorem dL_law_1205 : decode cL_law 1205 = .ok (.aload_n 0, 1) := by decide +kernel
theorem dL_law_1206 : decode cL_law 1206 = .ok (.iload_n 3, 1) := by decide +kernel
theorem dL_law_1207 : decode cL_law 1207 = .ok (.iconst 1, 1) := by decide +kernel
theorem dL_law_1208 : decode cL_law 1208 = .ok (.iadd, 1) := by decide +kernel
theorem dL_law_1209 : decode cL_law 1209 = .ok (.iaload, 1) := by decide +kernel
theorem dL_law_1210 : decode cL_law 1210 = .ok (.invokevirtual 132, 3) := by decide +kernel
theorem dL_law_1213 : decode cL_law 1213 = .ok (.aload_n 2, 1) := by decide +kernel
theorem dL_law_1214 : decode cL_law 1214 = .ok (.aload_n 0, 1) := by decide +kernel
theorem dL_law_1215 : decode cL_law 1215 = .ok (.iload_n 3, 1) := by decide +kernel
theorem dL_law_1216 : decode cL_law 1216 = .ok (.iconst 1, 1) := by decide +kernel
theorem dL_law_1217 : decode cL_law 1217 = .ok (.iadd, 1) := by decide +kernel
theorem dL_law_1218 : decode cL_law 1218 = .ok (.iaload, 1) := by decide +kernel
theorem dL_law_1219 : decode cL_law 1219 = .ok (.invokevirtual 135, 3) := by decide +kernel
theorem dL_law_1222 : decode cL_law 1222 = .ok (.if_icmp .eq 110, 3) := by decide +kernel
theorem dL_law_1225 : decode cL_law 1225 = .ok (.iconst 0, 1) := by decide +kernel
theorem dL_law_1226 : decode cL_law 1226 = .ok (.ireturn, 1) := by decide +kernel
theorem dL_law_1227 : decode cL_law 1227 = .ok (.aload_n 1, 1) := by decide +kernel
theorem dL_law_1228 : decode cL_law 1228 = .ok (.aload_n 0, 1) := by decide +kernel
theorem dL_law_1229 : decode cL_law 1229 = .ok (.iload_n 3, 1) := by decide +kernel
theorem dL_law_1230 : decode cL_law 1230 = .ok (.iconst 1, 1) := by decide +kernel
theorem dL_law_1231 : decode cL_law 1231 = .ok (.iadd, 1) := by decide +kernel
theorem dL_law_1232 : decode cL_law 1232 = .ok (.iaload, 1) := by decide +kernel
theorem dL_law_1233 : decode cL_law 1233 = .ok (.invokevirtual 136, 3) := by decide +kernel
theorem dL_law_1236 : decode cL_law 1236 = .ok (.aload_n 2, 1) := by decide +kernel
theorem dL_law_1237 : decode cL_law 1237 = .ok (.aload_n 0, 1) := by decide +kernel
theorem dL_law_1238 : decode cL_law 1238 = .ok (.iload_n 3, 1) := by decide +kernel
theorem dL_law_1239 : decode cL_law 1239 = .ok (.iconst 1, 1) := by decide +kernel
theorem dL_law_1240 : decode cL_law 1240 = .ok (.iadd, 1) := by decide +kernel
theorem dL_law_1241 : decode cL_law 1241 = .ok (.iaload, 1) := by decide +kernel
theorem dL_law_1242 : decode cL_law 1242 = .ok (.invokevirtual 139, 3) := by decide +kernel
theorem dL_law_1245 : decode cL_law 1245 = .ok (.if_icmp .eq 87, 3) := by decide +kernel
theorem dL_law_1248 : decode cL_law 1248 = .ok (.iconst 0, 1) := by decide +kernel
theorem dL_law_1249 : decode cL_law 1249 = .ok (.ireturn, 1) := by decide +kernel
theorem dL_law_1250 : decode cL_law 1250 = .ok (.aload_n 1, 1) := by decide +kernel
theorem dL_law_1251 : decode cL_law 1251 = .ok (.aload_n 0, 1) := by decide +kernel
theorem dL_law_1252 : decode cL_law 1252 = .ok (.iload_n 3, 1) := by decide +kernel
theorem dL_law_1253 : decode cL_law 1253 = .ok (.iconst 1, 1) := by decide +kernel
theorem dL_law_1254 : decode cL_law 1254 = .ok (.iadd, 1) := by decide +kernel
theorem dL_law_1255 : decode cL_law 1255 = .ok (.iaload, 1) := by decide +kernel
theorem dL_law_1256 : decode cL_law 1256 = .ok (.aload_n 0, 1) := by decide +kernel
theorem dL_law_1257 : decode cL_law 1257 = .ok (.iload_n 3, 1) := by decide +kernel
theorem dL_law_1258 : decode cL_law 1258 = .ok (.iconst 2, 1) := by decide +kernel
theorem dL_law_1259 : decode cL_law 1259 = .ok (.iadd, 1) := by decide +kernel
theorem dL_law_1260 : decode cL_law 1260 = .ok (.iaload, 1) := by decide +kernel
theorem dL_law_1261 : decode cL_law 1261 = .ok (.invokevirtual 140, 3) := by decide +kernel
theorem dL_law_1264 : decode cL_law 1264 = .ok (.aload_n 2, 1) := by decide +kernel
theorem dL_law_1265 : decode cL_law 1265 = .ok (.aload_n 0, 1) := by decide +kernel
theorem dL_law_1266 : decode cL_law 1266 = .ok (.iload_n 3, 1) := by decide +kernel
theorem dL_law_1267 : decode cL_law 1267 = .ok (.iconst 1, 1) := by decide +kernel
theorem dL_law_1268 : decode cL_law 1268 = .ok (.iadd, 1) := by decide +kernel
theorem dL_law_1269 : decode cL_law 1269 = .ok (.iaload, 1) := by decide +kernel
theorem dL_law_1270 : decode cL_law 1270 = .ok (.aload_n 0, 1) := by decide +kernel
theorem dL_law_1271 : decode cL_law 1271 = .ok (.iload_n 3, 1) := by decide +kernel
theorem dL_law_1272 : decode cL_law 1272 = .ok (.iconst 2, 1) := by decide +kernel
theorem dL_law_1273 : decode cL_law 1273 = .ok (.iadd, 1) := by decide +kernel
theorem dL_law_1274 : decode cL_law 1274 = .ok (.iaload, 1) := by decide +kernel
theorem dL_law_1275 : decode cL_law 1275 = .ok (.invokevirtual 143, 3) := by decide +kernel
theorem dL_law_1278 : decode cL_law 1278 = .ok (.if_icmp .eq 54, 3) := by decide +kernel
theorem dL_law_1281 : decode cL_law 1281 = .ok (.iconst 0, 1) := by decide +kernel
theorem dL_law_1282 : decode cL_law 1282 = .ok (.ireturn, 1) := by decide +kernel
theorem dL_law_1283 : decode cL_law 1283 = .ok (.aload_n 1, 1) := by decide +kernel
theorem dL_law_1284 : decode cL_law 1284 = .ok (.invokevirtual 144, 3) := by decide +kernel
theorem dL_law_1287 : decode cL_law 1287 = .ok (.aload_n 2, 1) := by decide +kernel
theorem dL_law_1288 : decode cL_law 1288 = .ok (.invokevirtual 147, 3) := by decide +kernel
theorem dL_law_1291 : decode cL_law 1291 = .ok (.if_icmp .eq 41, 3) := by decide +kernel
theorem dL_law_1294 : decode cL_law 1294 = .ok (.iconst 0, 1) := by decide +kernel
theorem dL_law_1295 : decode cL_law 1295 = .ok (.ireturn, 1) := by decide +kernel
theorem dL_law_1296 : decode cL_law 1296 = .ok (.aload_n 1, 1) := by decide +kernel
theorem dL_law_1297 : decode cL_law 1297 = .ok (.invokevirtual 148, 3) := by decide +kernel
theorem dL_law_1300 : decode cL_law 1300 = .ok (.aload_n 2, 1) := by decide +kernel
theorem dL_law_1301 : decode cL_law 1301 = .ok (.invokevirtual 151, 3) := by decide +kernel
theorem dL_law_1304 : decode cL_law 1304 = .ok (.if_icmp .eq 28, 3) := by decide +kernel
theorem dL_law_1307 : decode cL_law 1307 = .ok (.iconst 0, 1) := by decide +kernel
theorem dL_law_1308 : decode cL_law 1308 = .ok (.ireturn, 1) := by decide +kernel
theorem dL_law_1309 : decode cL_law 1309 = .ok (.aload_n 1, 1) := by decide +kernel
theorem dL_law_1310 : decode cL_law 1310 = .ok (.aload_n 0, 1) := by decide +kernel
theorem dL_law_1311 : decode cL_law 1311 = .ok (.iload_n 3, 1) := by decide +kernel
theorem dL_law_1312 : decode cL_law 1312 = .ok (.iconst 1, 1) := by decide +kernel
theorem dL_law_1313 : decode cL_law 1313 = .ok (.iadd, 1) := by decide +kernel
theorem dL_law_1314 : decode cL_law 1314 = .ok (.iaload, 1) := by decide +kernel
theorem dL_law_1315 : decode cL_law 1315 = .ok (.invokevirtual 152, 3) := by decide +kernel
theorem dL_law_1318 : decode cL_law 1318 = .ok (.aload_n 2, 1) := by decide +kernel
theorem dL_law_1319 : decode cL_law 1319 = .ok (.aload_n 0, 1) := by decide +kernel
theorem dL_law_1320 : decode cL_law 1320 = .ok (.iload_n 3, 1) := by decide +kernel
theorem dL_law_1321 : decode cL_law 1321 = .ok (.iconst 1, 1) := by decide +kernel
theorem dL_law_1322 : decode cL_law 1322 = .ok (.iadd, 1) := by decide +kernel
theorem dL_law_1323 : decode cL_law 1323 = .ok (.iaload, 1) := by decide +kernel
theorem dL_law_1324 : decode cL_law 1324 = .ok (.invokevirtual 155, 3) := by decide +kernel
theorem dL_law_1327 : decode cL_law 1327 = .ok (.if_icmp .eq 5, 3) := by decide +kernel
theorem dL_law_1330 : decode cL_law 1330 = .ok (.iconst 0, 1) := by decide +kernel
theorem dL_law_1331 : decode cL_law 1331 = .ok (.ireturn, 1) := by decide +kernel
theorem dL_law_1332 : decode cL_law 1332 = .ok (.iinc 3 6, 3) := by decide +kernel
theorem dL_law_1335 : decode cL_law 1335 = .ok (.goto (-1317), 3) := by decide +kernel
theorem dL_law_1338 : decode cL_law 1338 = .ok (.iconst 1, 1) := by decide +kernel
theorem dL_law_1339 : decode cL_law 1339 = .ok (.ireturn, 1) := by decide +kernel
abbrev vwCl : List vw_C := [(RX0, TX0, 2), (RX1, TX1, 6), (RX2, TX2, 6), (RX3, TX3, 6), (RX4, TX4, 6), (RX5, TX5, 6), (RX6, TX6, 5), (RX7, TX7, 5), (RX8, TX8, 13), (RX9, TX9, 4), (RX10, TX10, 7), (RX11, TX11, 12), (RX12, TX12, 43)]
end
section
-- the launch, the first address of ours, the classes' numbers and slots, the array classes' numbers
-- the tables' words that stay good over a call
def vT : List Cond := lw_tbl.filter goodWord
abbrev vG : Type := Launch × Nat × (Nat → ClassId) × (Nat → Nat → Nat) × (Nat → ClassId)
abbrev vS : Type := Nat → Nat × Nat
abbrev vI : Type := Nat → Nat → Int32
abbrev vL : Type := Nat → Nat → Int64
abbrev vR : Type := Nat → Nat → Option Nat
abbrev PT : Type := Option Value → Nat → vS → vI → vL → vR → Prop
def ad (G : vG) (i : Nat) : Nat := G.2.1 + i
theorem ad_inj {G : vG} {i j : Nat} (h : ad G i = ad G j) : i = j := Nat.add_left_cancel h
def vrf (G : vG) (r : Option Nat) : Option Nat := r.map (ad G)
def up2 {α : Type} (f : Nat → Nat → α) (i k : Nat) (v : α) : Nat → Nat → α := fun a b => if a = i ∧ b = k then v else f a b
def uph {α : Type} (f : Nat → α) (i : Nat) (v : α) : Nat → α := fun a => if a = i then v else f a
abbrev vty (G : vG) : List (ClassId × FieldType) := [(G.2.2.2.2 0, .int), (G.2.2.2.2 1, .boolean), (G.2.2.2.2 2, .object RX7), (G.2.2.2.2 3, .object RX2), (G.2.2.2.2 4, .object RX1), (G.2.2.2.2 5, .object RX9)]
-- words that want their own care over a call: links to private members of nest mates, casts, arrays of references
def vNest : List (String × Nat × MethodName × String) := [("RegularRally", 19, ⟨"RegularRally$Book", "<init>", "()V"⟩, "RegularRally"), ("RegularRally", 26, ⟨"RegularRally$Search", "<init>", "()V"⟩, "RegularRally"), ("RegularRally", 33, ⟨"RegularRally$Way", "<init>", "()V"⟩, "RegularRally"), ("RegularRally", 56, ⟨"RegularRally$Sheet", "<init>", "()V"⟩, "RegularRally"), ("RegularRally$Ford", 17, ⟨"RegularRally", "leaveNumber", "(I)V"⟩, "RegularRally"), ("RegularRally$OneWay", 19, ⟨"RegularRally", "leaveNumber", "(I)V"⟩, "RegularRally"), ("RegularRally$Road", 32, ⟨"RegularRally", "leaveNumber", "(I)V"⟩, "RegularRally"), ("RegularRally$Novice", 19, ⟨"RegularRally", "leaveNumber", "(I)V"⟩, "RegularRally"), ("RegularRally$Old", 7, ⟨"RegularRally", "leaveNumber", "(I)V"⟩, "RegularRally"), ("RegularRally$Car", 31, ⟨"RegularRally", "leaveNumber", "(I)V"⟩, "RegularRally")]
def vCa : List (String × String) := [(RX4, RX5)]
def vNca : List (String × String) := [(RX7, RX3), (RX6, RX3), (RX1, RX5), (RX1, RX4), (RX5, RX4)]
def vAOs : List String := [RX7, RX2, RX1, RX9]
def vX (U : State) : Prop := (∀ q ∈ vNest, va_Nw (.methodLinkNest q.1 q.2.1 q.2.2.1 q.2.2.2) U) ∧ (∀ q ∈ vCa, va_Nw (.castable q.1 q.2) U) ∧ (∀ q ∈ vNca, va_Nc q.1 q.2 U) ∧ ∀ C ∈ vAOs, va_AO C U
theorem vX_same {u U : State} (h : u.vm = U.vm) (x : vX u) : vX U := ⟨fun q hq => va_Nw.same rfl h (x.1 q hq), fun q hq => va_Nw.same rfl h (x.2.1 q hq), fun q hq => va_Nc.moved (h ▸ Vm.Alike.refl u.vm) (x.2.2.1 q hq), fun C hC => va_AO.moved (h ▸ Vm.Alike.refl u.vm) (x.2.2.2 C hC)⟩
theorem vX_warm {s U : State} (hW : s.WarmedH U.vm) (x : vX s) : vX U := ⟨fun q hq => va_Nw.warmM hW (x.1 q hq), fun q hq => va_Nw.warmC hW (x.2.1 q hq), fun q hq => va_Nc.moved hW.alike (x.2.2.1 q hq), fun C hC => va_AO.moved hW.alike (x.2.2.2 C hC)⟩
def vK (G : vG) (U : State) : Prop := va_K (G.2.2.1, G.2.2.2.1) vwCl (vty G) U ∧ vX U
theorem vK_warm {G : vG} {s U : State} (hW : s.WarmedH U.vm) (h : vK G s) : vK G U := ⟨va_K.moved hW.alike h.1, vX_warm hW h.2⟩
theorem vK_same {G : vG} {s U : State} (e : s.vm = U.vm) (h : vK G s) : vK G U := ⟨va_K.moved (e ▸ Vm.Alike.refl s.vm) h.1, vX_same e h.2⟩
/-- the kinds of a class's fields: 0 a number of 32 bits, 1 of 64, 2 a reference -/
def fT : Nat → List Nat
  | 0 => [2, 0]
  | 1 => [0, 0, 2, 2, 0, 2]
  | 2 => [0, 0, 0, 1, 0, 1]
  | 3 => [0, 0, 0, 0, 0, 0]
  | 4 => [0, 0, 2, 2, 0, 2]
  | 5 => [0, 0, 2, 2, 0, 2]
  | 6 => [0, 0, 0, 0, 0]
  | 7 => [0, 0, 0, 0, 0]
  | 8 => [2, 2, 2, 2, 2, 2, 0, 0, 0, 2, 0, 0, 0]
  | 9 => [2, 0, 0, 0]
  | 10 => [2, 2, 0, 0, 2, 2, 0]
  | 11 => [2, 0, 2, 2, 2, 2, 0, 2, 0, 2, 0, 0]
  | 12 => [0, 0, 2, 2, 2, 2, 2, 2, 2, 2, 2, 2, 0, 2, 0, 0, 0, 2, 0, 0, 2, 2, 2, 2, 0, 0, 2, 0, 2, 2, 0, 2, 2, 2, 2, 0, 2, 2, 0, 2, 2, 2, 0]
  | _ => []
def fv (G : vG) (Ii : Nat → Int32) (Li : Nat → Int64) (Ri : Nat → Option Nat) (k t : Nat) : Value := if t = 0 then .int (Ii k) else if t = 1 then .long (Li k) else va_rf (vrf G (Ri k))
def rdl (G : vG) (Ii : Nat → Int32) (Li : Nat → Int64) (Ri : Nat → Option Nat) : Nat → List Nat → List Value
  | _, [] => []
  | k, t :: ts => fv G Ii Li Ri k t :: rdl G Ii Li Ri (k + 1) ts
theorem rdl_get {G : vG} {Ii : Nat → Int32} {Li : Nat → Int64} {Ri : Nat → Option Nat} : ∀ (ts : List Nat) (j k : Nat), (rdl G Ii Li Ri j ts)[k]? = ts[k]?.map (fun t => fv G Ii Li Ri (j + k) t)
  | [], j, k => by simp [rdl]
  | t :: ts, j, 0 => by simp [rdl]
  | t :: ts, j, k + 1 => by
    have := rdl_get (G := G) (Ii := Ii) (Li := Li) (Ri := Ri) ts (j + 1) k
    simp only [rdl, List.getElem?_cons_succ, this]
    congr 1
    funext t
    congr 1
    omega
theorem rdl_len {G : vG} {Ii : Nat → Int32} {Li : Nat → Int64} {Ri : Nat → Option Nat} : ∀ (ts : List Nat) (j : Nat), (rdl G Ii Li Ri j ts).length = ts.length
  | [], j => rfl
  | t :: ts, j => by simp [rdl, rdl_len ts (j + 1)]
theorem rdl_set {G : vG} {Ii Ii' : Nat → Int32} {Li Li' : Nat → Int64} {Ri Ri' : Nat → Option Nat} {ts : List Nat} {k t : Nat} {v : Value} (ht : ts[k]? = some t) (hv : fv G Ii' Li' Ri' k t = v) (ho : ∀ j u, j ≠ k → ts[j]? = some u → fv G Ii' Li' Ri' j u = fv G Ii Li Ri j u) : (rdl G Ii Li Ri 0 ts).set k v = rdl G Ii' Li' Ri' 0 ts := by
  apply List.ext_getElem?
  intro j
  rw [rdl_get, List.getElem?_set, rdl_get, rdl_len]
  have hk : k < ts.length := (List.getElem?_eq_some_iff.mp ht).1
  by_cases h : k = j
  · subst h
    rw [if_pos rfl, if_pos hk, ht, ← hv]
    simp
  · rw [if_neg h]
    cases hu : ts[j]? with
    | none => rfl
    | some u => simp [ho j u (Ne.symm h) hu]
def vcell (G : vG) (sh : vS) (I : vI) (L : vL) (R : vR) (i : Nat) : va_E := if (sh i).1 < 13 then .inr ((sh i).1, rdl G (I i) (L i) (R i) 0 (fT (sh i).1)) else .inl (G.2.2.2.2 ((sh i).1 - 13), (sh i).2, if (sh i).1 < 15 then .inl (I i) else .inr (.inr (.inr (.inr (fun k => vrf G (R i k))))))
def vwl (G : vG) (n : Nat) (sh : vS) (I : vI) (L : vL) (R : vR) : va_W := (List.range n).map (fun i => (ad G i, vcell G sh I L R i))
def vRp (G : vG) (n : Nat) (sh : vS) (I : vI) (L : vL) (R : vR) (H : Heap) : Prop := H.size = ad G n ∧ va_P (G.2.2.1, G.2.2.2.1) vwCl (vwl G n sh I L R) H
def vA (G : vG) : Nat → Prop := fun q => G.2.1 ≤ q
theorem vwl_get {G : vG} {n : Nat} {sh : vS} {I : vI} {L : vL} {R : vR} {i : Nat} (h : i < n) : (vwl G n sh I L R)[i]? = some (ad G i, vcell G sh I L R i) := by
  simp [vwl, h]
theorem vwl_at {G : vG} {n : Nat} {sh : vS} {I : vI} {L : vL} {R : vR} {k : Nat} {q : Nat × va_E} (h : (vwl G n sh I L R)[k]? = some q) : k < n ∧ q = (ad G k, vcell G sh I L R k) := by
  have hk : k < n := by
    have := (List.getElem?_eq_some_iff.mp h).1
    simpa [vwl] using this
  rw [vwl_get hk] at h
  exact ⟨hk, (Option.some.inj h).symm⟩
theorem vwl_D {G : vG} {n : Nat} {sh : vS} {I : vI} {L : vL} {R : vR} : va_D (vA G) (vwl G n sh I L R) := by
  refine ⟨fun i j p q h1 h2 h3 => ?_, fun k q h => ?_⟩
  · rw [(vwl_at h1).2, (vwl_at h2).2] at h3
    exact ad_inj h3
  · rw [(vwl_at h).2]
    exact Nat.le_add_right _ _
theorem vwl_set {G : vG} {n : Nat} {sh : vS} {I I' : vI} {L L' : vL} {R R' : vR} {i : Nat} {e : va_E} (he : vcell G sh I' L' R' i = e) (ho : ∀ j, j ≠ i → vcell G sh I' L' R' j = vcell G sh I L R j) : (vwl G n sh I L R).set i (ad G i, e) = vwl G n sh I' L' R' := by
  apply List.ext_getElem?
  intro j
  rw [List.getElem?_set]
  by_cases h : i = j
  · subst h
    rw [if_pos rfl]
    have hlen : (vwl G n sh I L R).length = n := by simp [vwl]
    by_cases hn : i < n
    · rw [if_pos (by rw [hlen]; exact hn), vwl_get (I := I') (L := L') (R := R') hn, he]
    · rw [if_neg (by rw [hlen]; exact hn), List.getElem?_eq_none (by simp [vwl]; omega)]
  · rw [if_neg h]
    by_cases hn : j < n
    · rw [vwl_get hn, vwl_get hn, ho j (Ne.symm h)]
    · rw [List.getElem?_eq_none (by simp [vwl]; omega), List.getElem?_eq_none (by simp [vwl]; omega)]
theorem vwl_push {G : vG} {n : Nat} {sh sh' : vS} {I I' : vI} {L L' : vL} {R R' : vR} {e : va_E} (he : vcell G sh' I' L' R' n = e) (ho : ∀ j, j < n → vcell G sh' I' L' R' j = vcell G sh I L R j) : vwl G n sh I L R ++ [(ad G n, e)] = vwl G (n + 1) sh' I' L' R' := by
  apply List.ext_getElem?
  intro j
  by_cases hn : j < n
  · rw [List.getElem?_append_left (by simpa [vwl] using hn), vwl_get hn, vwl_get (Nat.lt_succ_of_lt hn), ho j hn]
  · rw [List.getElem?_append_right (by simpa [vwl] using Nat.le_of_not_lt hn)]
    by_cases h : j = n
    · subst h
      rw [vwl_get (Nat.lt_succ_self j), he]; simp [vwl]
    · rw [List.getElem?_eq_none (by simp [vwl]; omega), List.getElem?_eq_none (by simp [vwl]; omega)]
def QV (G : vG) (post : PT) : Array Value → State → Outcome → State → Prop := fun _ st oc t => (∃ (r : Option Value) (n : Nat) (sh : vS) (I : vI) (L : vL) (R : vR), oc = .returned r ∧ post r n sh I L R ∧ vRp G n sh I L R t.heap) ∧ va_F (vA G) st t
/-- what holds all along a method's walk -/
def CX (G : vG) (own : String) (cc : ByteArray) (ret : Option FieldType) (ini : Bool) (d MC MS nL : Nat) (p : Program) (R0 : Room) (s : State) (m : MethodId) (args : Array Value) (meth : Method) (c : Code) : Prop :=
  p.tables.exec = Jvm.exec ∧ c.code = cc ∧ meth.sig.returnType = ret ∧ c.maxLocals = nL ∧ s.vm.findClass own = some m.cls ∧ (∀ w ∈ vT, w.before args s = true) ∧ vK G s ∧ meth.locks = false ∧ (ini = true → meth.name = "<init>") ∧ d ≤ R0.frames ∧ 40 * d ≤ R0.locals ∧ MC ≤ R0.cells ∧ MS ≤ R0.slots ∧ G.2.1 ≤ s.heap.size
def V (G : vG) (own : String) (cc : ByteArray) (ret : Option FieldType) (ini : Bool) (d MC MS nL : Nat) (post : PT) (pc : Nat) (lo : List (Nat × Value)) (st : List Value) (ce sl n : Nat) (sh : vS) (I : vI) (L : vL) (R : vR) : Prop :=
  ∀ (p : Program) (e : Env) (R0 : Room) (s : State) (m : MethodId) (args : Array Value) (below : List Frame) (meth : Method) (c : Code) (H : Heap) (locs : List Loc) (ls : Array Slot),
    CX G own cc ret ini d MC MS nL p R0 s m args meth c → vRp G n sh I L R H → va_S (vA G) s.heap H locs → lv_has ls nL lo → W p G.1 e R0 s m args below meth c H locs ce sl (MQ below (QV G post) args s MC MS (vA G)) (F0 m pc ls st)
def lins (p : Nat × Value) : List (Nat × Value) → List (Nat × Value)
  | [] => [p]
  | q :: t => if p.1 < q.1 then p :: q :: t else q :: lins p t
theorem lins_mem {p : Nat × Value} : ∀ {l : List (Nat × Value)} {q : Nat × Value}, q ∈ lins p l → q = p ∨ q ∈ l
  | [], q, h => by simpa [lins] using h
  | a :: t, q, h => by
    unfold lins at h
    split at h
    · simpa using h
    · rcases List.mem_cons.mp h with h | h
      · exact Or.inr (by simp [h])
      · rcases lins_mem h with h | h
        · exact Or.inl h
        · exact Or.inr (List.mem_cons_of_mem _ h)
theorem lins_has {ls : Array Slot} {nL : Nat} {p : Nat × Value} {l : List (Nat × Value)} (h : lv_has ls nL (p :: l)) : lv_has ls nL (lins p l) :=
  ⟨h.1, h.2.1, fun q hq => h.2.2 q (by rcases lins_mem hq with h | h; exact h ▸ List.mem_cons_self; exact List.mem_cons_of_mem _ h)⟩
def lf1 (i : Nat) (lo : List (Nat × Value)) : List (Nat × Value) := lo.filter (fun q => !(q.1 == i) && !(q.1 + 1 == i && q.2.category == 2))
def lf2 (i : Nat) (lo : List (Nat × Value)) : List (Nat × Value) := lo.filter (fun q => !(q.1 == i) && (!(q.1 == i + 1) && !(q.1 + 1 == i && q.2.category == 2)))
section VV
variable {G : vG} {own : String} {cc : ByteArray} {ret : Option FieldType} {ini : Bool} {d MC MS nL : Nat} {post : PT} {pc : Nat} {lo : List (Nat × Value)} {st : List Value} {ce sl n : Nat} {sh : vS} {I : vI} {L : vL} {R : vR}
theorem V_iconst {q : Int} {v : Int32} (hd : decode cc pc = .ok (.iconst q, 1)) (hv : Int32.ofInt q = v) (k : V G own cc ret ini d MC MS nL post (pc + 1) lo (.int v :: st) ce sl n sh I L R) : V G own cc ret ini d MC MS nL post pc lo (st) ce sl n sh I L R := by
  intro p e R0 s m args below meth c H locs ls hc hP hS hl
  exact lv_iconst hc.1 hc.2.1 hd hv (k p e R0 s m args below meth c H locs ls hc hP hS hl)
theorem V_bipush {q : Int} {v : Int32} (hd : decode cc pc = .ok (.bipush q, 2)) (hv : (Int8.ofInt q).toInt32 = v) (k : V G own cc ret ini d MC MS nL post (pc + 2) lo (.int v :: st) ce sl n sh I L R) : V G own cc ret ini d MC MS nL post pc lo (st) ce sl n sh I L R := by
  intro p e R0 s m args below meth c H locs ls hc hP hS hl
  exact lv_bipush hc.1 hc.2.1 hd hv (k p e R0 s m args below meth c H locs ls hc hP hS hl)
theorem V_sipush {q : Int} {v : Int32} (hd : decode cc pc = .ok (.sipush q, 3)) (hv : (Int16.ofInt q).toInt32 = v) (k : V G own cc ret ini d MC MS nL post (pc + 3) lo (.int v :: st) ce sl n sh I L R) : V G own cc ret ini d MC MS nL post pc lo (st) ce sl n sh I L R := by
  intro p e R0 s m args below meth c H locs ls hc hP hS hl
  exact lv_sipush hc.1 hc.2.1 hd hv (k p e R0 s m args below meth c H locs ls hc hP hS hl)
theorem V_lconst {q : Fin 2} {v : Int64} (hd : decode cc pc = .ok (.lconst q, 1)) (hv : Int64.ofNat (q : Nat) = v) (k : V G own cc ret ini d MC MS nL post (pc + 1) lo (.long v :: st) ce sl n sh I L R) : V G own cc ret ini d MC MS nL post pc lo (st) ce sl n sh I L R := by
  intro p e R0 s m args below meth c H locs ls hc hP hS hl
  exact lv_lconst hc.1 hc.2.1 hd hv (k p e R0 s m args below meth c H locs ls hc hP hS hl)
theorem V_iload_n {q : Fin 4} (j : Nat) {i : Nat} {x : Int32} (hd : decode cc pc = .ok (.iload_n q, 1)) (hi : (q : Nat) = i) (hj : lo[j]? = some (i, .int x)) (k : V G own cc ret ini d MC MS nL post (pc + 1) lo (.int x :: st) ce sl n sh I L R) : V G own cc ret ini d MC MS nL post pc lo (st) ce sl n sh I L R := by
  intro p e R0 s m args below meth c H locs ls hc hP hS hl
  exact lv_iload_n hc.1 hc.2.1 hd hi (lv_at hl j hj) (k p e R0 s m args below meth c H locs ls hc hP hS hl)
theorem V_iload (j : Nat) {i : Nat} {x : Int32} (hd : decode cc pc = .ok (.iload i, 2)) (hj : lo[j]? = some (i, .int x)) (k : V G own cc ret ini d MC MS nL post (pc + 2) lo (.int x :: st) ce sl n sh I L R) : V G own cc ret ini d MC MS nL post pc lo (st) ce sl n sh I L R := by
  intro p e R0 s m args below meth c H locs ls hc hP hS hl
  exact lv_iload hc.1 hc.2.1 hd (lv_at hl j hj) (k p e R0 s m args below meth c H locs ls hc hP hS hl)
theorem V_lload_n {q : Fin 4} (j : Nat) {i : Nat} {x : Int64} (hd : decode cc pc = .ok (.lload_n q, 1)) (hi : (q : Nat) = i) (hj : lo[j]? = some (i, .long x)) (k : V G own cc ret ini d MC MS nL post (pc + 1) lo (.long x :: st) ce sl n sh I L R) : V G own cc ret ini d MC MS nL post pc lo (st) ce sl n sh I L R := by
  intro p e R0 s m args below meth c H locs ls hc hP hS hl
  exact lv_lload_n hc.1 hc.2.1 hd hi (lv_at hl j hj) (k p e R0 s m args below meth c H locs ls hc hP hS hl)
theorem V_lload (j : Nat) {i : Nat} {x : Int64} (hd : decode cc pc = .ok (.lload i, 2)) (hj : lo[j]? = some (i, .long x)) (k : V G own cc ret ini d MC MS nL post (pc + 2) lo (.long x :: st) ce sl n sh I L R) : V G own cc ret ini d MC MS nL post pc lo (st) ce sl n sh I L R := by
  intro p e R0 s m args below meth c H locs ls hc hP hS hl
  exact lv_lload hc.1 hc.2.1 hd (lv_at hl j hj) (k p e R0 s m args below meth c H locs ls hc hP hS hl)
theorem V_aload_n {q : Fin 4} (j : Nat) {i : Nat} {x : Nat} (hd : decode cc pc = .ok (.aload_n q, 1)) (hi : (q : Nat) = i) (hj : lo[j]? = some (i, .ref x)) (k : V G own cc ret ini d MC MS nL post (pc + 1) lo (.ref x :: st) ce sl n sh I L R) : V G own cc ret ini d MC MS nL post pc lo (st) ce sl n sh I L R := by
  intro p e R0 s m args below meth c H locs ls hc hP hS hl
  exact lv_aload_n hc.1 hc.2.1 hd hi (lv_at hl j hj) (k p e R0 s m args below meth c H locs ls hc hP hS hl)
theorem V_aload (j : Nat) {i : Nat} {x : Nat} (hd : decode cc pc = .ok (.aload i, 2)) (hj : lo[j]? = some (i, .ref x)) (k : V G own cc ret ini d MC MS nL post (pc + 2) lo (.ref x :: st) ce sl n sh I L R) : V G own cc ret ini d MC MS nL post pc lo (st) ce sl n sh I L R := by
  intro p e R0 s m args below meth c H locs ls hc hP hS hl
  exact lv_aload hc.1 hc.2.1 hd (lv_at hl j hj) (k p e R0 s m args below meth c H locs ls hc hP hS hl)
theorem V_aload_nN {q : Fin 4} (j : Nat) {i : Nat} (hd : decode cc pc = .ok (.aload_n q, 1)) (hi : (q : Nat) = i) (hj : lo[j]? = some (i, .null)) (k : V G own cc ret ini d MC MS nL post (pc + 1) lo (.null :: st) ce sl n sh I L R) : V G own cc ret ini d MC MS nL post pc lo (st) ce sl n sh I L R := by
  intro p e R0 s m args below meth c H locs ls hc hP hS hl
  exact lv_aload_nN hc.1 hc.2.1 hd hi (lv_at hl j hj) (k p e R0 s m args below meth c H locs ls hc hP hS hl)
theorem V_aloadN (j : Nat) {i : Nat} (hd : decode cc pc = .ok (.aload i, 2)) (hj : lo[j]? = some (i, .null)) (k : V G own cc ret ini d MC MS nL post (pc + 2) lo (.null :: st) ce sl n sh I L R) : V G own cc ret ini d MC MS nL post pc lo (st) ce sl n sh I L R := by
  intro p e R0 s m args below meth c H locs ls hc hP hS hl
  exact lv_aloadN hc.1 hc.2.1 hd (lv_at hl j hj) (k p e R0 s m args below meth c H locs ls hc hP hS hl)
theorem V_istore_n {q : Fin 4} {x : Int32} {i : Nat} {lo' : List (Nat × Value)} (hd : decode cc pc = .ok (.istore_n q, 1)) (hi : (q : Nat) = i) (hn : i < nL) (hq : lins (i, .int x) (lf1 i lo) = lo') (k : V G own cc ret ini d MC MS nL post (pc + 1) lo' st ce sl n sh I L R) : V G own cc ret ini d MC MS nL post pc lo (.int x :: st) ce sl n sh I L R := by
  intro p e R0 s m args below meth c H locs ls hc hP hS hl
  subst hq
  exact lv_istore_n hc.1 hc.2.1 hd hi hl hn rfl (fun ls1 h1 => k p e R0 s m args below meth c H locs ls1 hc hP hS (lins_has h1))
theorem V_istore {x : Int32} {i : Nat} {lo' : List (Nat × Value)} (hd : decode cc pc = .ok (.istore i, 2))  (hn : i < nL) (hq : lins (i, .int x) (lf1 i lo) = lo') (k : V G own cc ret ini d MC MS nL post (pc + 2) lo' st ce sl n sh I L R) : V G own cc ret ini d MC MS nL post pc lo (.int x :: st) ce sl n sh I L R := by
  intro p e R0 s m args below meth c H locs ls hc hP hS hl
  subst hq
  exact lv_istore hc.1 hc.2.1 hd  hl hn rfl (fun ls1 h1 => k p e R0 s m args below meth c H locs ls1 hc hP hS (lins_has h1))
theorem V_lstore_n {q : Fin 4} {x : Int64} {i : Nat} {lo' : List (Nat × Value)} (hd : decode cc pc = .ok (.lstore_n q, 1)) (hi : (q : Nat) = i) (hn : i + 1 < nL) (hq : lins (i, .long x) (lf2 i lo) = lo') (k : V G own cc ret ini d MC MS nL post (pc + 1) lo' st ce sl n sh I L R) : V G own cc ret ini d MC MS nL post pc lo (.long x :: st) ce sl n sh I L R := by
  intro p e R0 s m args below meth c H locs ls hc hP hS hl
  subst hq
  exact lv_lstore_n hc.1 hc.2.1 hd hi hl hn rfl (fun ls1 h1 => k p e R0 s m args below meth c H locs ls1 hc hP hS (lins_has h1))
theorem V_lstore {x : Int64} {i : Nat} {lo' : List (Nat × Value)} (hd : decode cc pc = .ok (.lstore i, 2))  (hn : i + 1 < nL) (hq : lins (i, .long x) (lf2 i lo) = lo') (k : V G own cc ret ini d MC MS nL post (pc + 2) lo' st ce sl n sh I L R) : V G own cc ret ini d MC MS nL post pc lo (.long x :: st) ce sl n sh I L R := by
  intro p e R0 s m args below meth c H locs ls hc hP hS hl
  subst hq
  exact lv_lstore hc.1 hc.2.1 hd  hl hn rfl (fun ls1 h1 => k p e R0 s m args below meth c H locs ls1 hc hP hS (lins_has h1))
theorem V_astore_n {q : Fin 4} {x : Nat} {i : Nat} {lo' : List (Nat × Value)} (hd : decode cc pc = .ok (.astore_n q, 1)) (hi : (q : Nat) = i) (hn : i < nL) (hq : lins (i, .ref x) (lf1 i lo) = lo') (k : V G own cc ret ini d MC MS nL post (pc + 1) lo' st ce sl n sh I L R) : V G own cc ret ini d MC MS nL post pc lo (.ref x :: st) ce sl n sh I L R := by
  intro p e R0 s m args below meth c H locs ls hc hP hS hl
  subst hq
  exact lv_astore_n hc.1 hc.2.1 hd hi hl hn rfl (fun ls1 h1 => k p e R0 s m args below meth c H locs ls1 hc hP hS (lins_has h1))
theorem V_astore {x : Nat} {i : Nat} {lo' : List (Nat × Value)} (hd : decode cc pc = .ok (.astore i, 2))  (hn : i < nL) (hq : lins (i, .ref x) (lf1 i lo) = lo') (k : V G own cc ret ini d MC MS nL post (pc + 2) lo' st ce sl n sh I L R) : V G own cc ret ini d MC MS nL post pc lo (.ref x :: st) ce sl n sh I L R := by
  intro p e R0 s m args below meth c H locs ls hc hP hS hl
  subst hq
  exact lv_astore hc.1 hc.2.1 hd  hl hn rfl (fun ls1 h1 => k p e R0 s m args below meth c H locs ls1 hc hP hS (lins_has h1))
theorem V_astore_nN {q : Fin 4} {i : Nat} {lo' : List (Nat × Value)} (hd : decode cc pc = .ok (.astore_n q, 1)) (hi : (q : Nat) = i) (hn : i < nL) (hq : lins (i, .null) (lf1 i lo) = lo') (k : V G own cc ret ini d MC MS nL post (pc + 1) lo' st ce sl n sh I L R) : V G own cc ret ini d MC MS nL post pc lo (.null :: st) ce sl n sh I L R := by
  intro p e R0 s m args below meth c H locs ls hc hP hS hl
  subst hq
  exact lv_astore_nN hc.1 hc.2.1 hd hi hl hn rfl (fun ls1 h1 => k p e R0 s m args below meth c H locs ls1 hc hP hS (lins_has h1))
theorem V_astoreN  {i : Nat} {lo' : List (Nat × Value)} (hd : decode cc pc = .ok (.astore i, 2))  (hn : i < nL) (hq : lins (i, .null) (lf1 i lo) = lo') (k : V G own cc ret ini d MC MS nL post (pc + 2) lo' st ce sl n sh I L R) : V G own cc ret ini d MC MS nL post pc lo (.null :: st) ce sl n sh I L R := by
  intro p e R0 s m args below meth c H locs ls hc hP hS hl
  subst hq
  exact lv_astoreN hc.1 hc.2.1 hd  hl hn rfl (fun ls1 h1 => k p e R0 s m args below meth c H locs ls1 hc hP hS (lins_has h1))
theorem V_iinc (j : Nat) {i : Nat} {q : Int} {x v : Int32} {lo' : List (Nat × Value)} (hd : decode cc pc = .ok (.iinc i q, 3)) (hj : lo[j]? = some (i, .int x)) (hv : x + Int32.ofInt q = v) (hn : i < nL) (hq : lins (i, .int v) (lf1 i lo) = lo') (k : V G own cc ret ini d MC MS nL post (pc + 3) lo' st ce sl n sh I L R) : V G own cc ret ini d MC MS nL post pc lo st ce sl n sh I L R := by
  intro p e R0 s m args below meth c H locs ls hc hP hS hl
  subst hq
  exact lv_iinc hc.1 hc.2.1 hd hl hj hv hn rfl (fun ls1 h1 => k p e R0 s m args below meth c H locs ls1 hc hP hS (lins_has h1))
theorem V_iadd {x y : Int32} (hd : decode cc pc = .ok (.iadd, 1))  (k : ∀ z : Int32, z = x + y → V G own cc ret ini d MC MS nL post (pc + 1) lo (.int z :: st) ce sl n sh I L R) : V G own cc ret ini d MC MS nL post pc lo (.int y :: .int x :: st) ce sl n sh I L R := by
  intro p e R0 s m args below meth c H locs ls hc hP hS hl
  exact lv_iadd hc.1 hc.2.1 hd  (k _ rfl p e R0 s m args below meth c H locs ls hc hP hS hl)
theorem V_isub {x y : Int32} (hd : decode cc pc = .ok (.isub, 1))  (k : ∀ z : Int32, z = x - y → V G own cc ret ini d MC MS nL post (pc + 1) lo (.int z :: st) ce sl n sh I L R) : V G own cc ret ini d MC MS nL post pc lo (.int y :: .int x :: st) ce sl n sh I L R := by
  intro p e R0 s m args below meth c H locs ls hc hP hS hl
  exact lv_isub hc.1 hc.2.1 hd  (k _ rfl p e R0 s m args below meth c H locs ls hc hP hS hl)
theorem V_imul {x y : Int32} (hd : decode cc pc = .ok (.imul, 1))  (k : ∀ z : Int32, z = x * y → V G own cc ret ini d MC MS nL post (pc + 1) lo (.int z :: st) ce sl n sh I L R) : V G own cc ret ini d MC MS nL post pc lo (.int y :: .int x :: st) ce sl n sh I L R := by
  intro p e R0 s m args below meth c H locs ls hc hP hS hl
  exact lv_imul hc.1 hc.2.1 hd  (k _ rfl p e R0 s m args below meth c H locs ls hc hP hS hl)
theorem V_iand {x y : Int32} (hd : decode cc pc = .ok (.iand, 1))  (k : ∀ z : Int32, z = x &&& y → V G own cc ret ini d MC MS nL post (pc + 1) lo (.int z :: st) ce sl n sh I L R) : V G own cc ret ini d MC MS nL post pc lo (.int y :: .int x :: st) ce sl n sh I L R := by
  intro p e R0 s m args below meth c H locs ls hc hP hS hl
  exact lv_iand hc.1 hc.2.1 hd  (k _ rfl p e R0 s m args below meth c H locs ls hc hP hS hl)
theorem V_ior {x y : Int32} (hd : decode cc pc = .ok (.ior, 1))  (k : ∀ z : Int32, z = x ||| y → V G own cc ret ini d MC MS nL post (pc + 1) lo (.int z :: st) ce sl n sh I L R) : V G own cc ret ini d MC MS nL post pc lo (.int y :: .int x :: st) ce sl n sh I L R := by
  intro p e R0 s m args below meth c H locs ls hc hP hS hl
  exact lv_ior hc.1 hc.2.1 hd  (k _ rfl p e R0 s m args below meth c H locs ls hc hP hS hl)
theorem V_ixor {x y : Int32} (hd : decode cc pc = .ok (.ixor, 1))  (k : ∀ z : Int32, z = x ^^^ y → V G own cc ret ini d MC MS nL post (pc + 1) lo (.int z :: st) ce sl n sh I L R) : V G own cc ret ini d MC MS nL post pc lo (.int y :: .int x :: st) ce sl n sh I L R := by
  intro p e R0 s m args below meth c H locs ls hc hP hS hl
  exact lv_ixor hc.1 hc.2.1 hd  (k _ rfl p e R0 s m args below meth c H locs ls hc hP hS hl)
theorem V_ishl {x y : Int32} (hd : decode cc pc = .ok (.ishl, 1))  (k : ∀ z : Int32, z = x <<< (y &&& 31) → V G own cc ret ini d MC MS nL post (pc + 1) lo (.int z :: st) ce sl n sh I L R) : V G own cc ret ini d MC MS nL post pc lo (.int y :: .int x :: st) ce sl n sh I L R := by
  intro p e R0 s m args below meth c H locs ls hc hP hS hl
  exact lv_ishl hc.1 hc.2.1 hd  (k _ rfl p e R0 s m args below meth c H locs ls hc hP hS hl)
theorem V_ishr {x y : Int32} (hd : decode cc pc = .ok (.ishr, 1))  (k : ∀ z : Int32, z = x >>> (y &&& 31) → V G own cc ret ini d MC MS nL post (pc + 1) lo (.int z :: st) ce sl n sh I L R) : V G own cc ret ini d MC MS nL post pc lo (.int y :: .int x :: st) ce sl n sh I L R := by
  intro p e R0 s m args below meth c H locs ls hc hP hS hl
  exact lv_ishr hc.1 hc.2.1 hd  (k _ rfl p e R0 s m args below meth c H locs ls hc hP hS hl)
theorem V_ladd {x y : Int64} (hd : decode cc pc = .ok (.ladd, 1))  (k : ∀ z : Int64, z = x + y → V G own cc ret ini d MC MS nL post (pc + 1) lo (.long z :: st) ce sl n sh I L R) : V G own cc ret ini d MC MS nL post pc lo (.long y :: .long x :: st) ce sl n sh I L R := by
  intro p e R0 s m args below meth c H locs ls hc hP hS hl
  exact lv_ladd hc.1 hc.2.1 hd  (k _ rfl p e R0 s m args below meth c H locs ls hc hP hS hl)
theorem V_lsub {x y : Int64} (hd : decode cc pc = .ok (.lsub, 1))  (k : ∀ z : Int64, z = x - y → V G own cc ret ini d MC MS nL post (pc + 1) lo (.long z :: st) ce sl n sh I L R) : V G own cc ret ini d MC MS nL post pc lo (.long y :: .long x :: st) ce sl n sh I L R := by
  intro p e R0 s m args below meth c H locs ls hc hP hS hl
  exact lv_lsub hc.1 hc.2.1 hd  (k _ rfl p e R0 s m args below meth c H locs ls hc hP hS hl)
theorem V_lmul {x y : Int64} (hd : decode cc pc = .ok (.lmul, 1))  (k : ∀ z : Int64, z = x * y → V G own cc ret ini d MC MS nL post (pc + 1) lo (.long z :: st) ce sl n sh I L R) : V G own cc ret ini d MC MS nL post pc lo (.long y :: .long x :: st) ce sl n sh I L R := by
  intro p e R0 s m args below meth c H locs ls hc hP hS hl
  exact lv_lmul hc.1 hc.2.1 hd  (k _ rfl p e R0 s m args below meth c H locs ls hc hP hS hl)
theorem V_idiv {x y : Int32} (hd : decode cc pc = .ok (.idiv, 1)) (hy : ¬ y = 0) (k : ∀ z : Int32, z = x / y → V G own cc ret ini d MC MS nL post (pc + 1) lo (.int z :: st) ce sl n sh I L R) : V G own cc ret ini d MC MS nL post pc lo (.int y :: .int x :: st) ce sl n sh I L R := by
  intro p e R0 s m args below meth c H locs ls hc hP hS hl
  exact lv_idiv hc.1 hc.2.1 hd hy (k _ rfl p e R0 s m args below meth c H locs ls hc hP hS hl)
theorem V_ldiv {x y : Int64} (hd : decode cc pc = .ok (.ldiv, 1)) (hy : ¬ y = 0) (k : ∀ z : Int64, z = x / y → V G own cc ret ini d MC MS nL post (pc + 1) lo (.long z :: st) ce sl n sh I L R) : V G own cc ret ini d MC MS nL post pc lo (.long y :: .long x :: st) ce sl n sh I L R := by
  intro p e R0 s m args below meth c H locs ls hc hP hS hl
  exact lv_ldiv hc.1 hc.2.1 hd hy (k _ rfl p e R0 s m args below meth c H locs ls hc hP hS hl)
theorem V_ineg {x : Int32} (hd : decode cc pc = .ok (.ineg, 1)) (k : ∀ z : Int32, z = -x → V G own cc ret ini d MC MS nL post (pc + 1) lo (.int z :: st) ce sl n sh I L R) : V G own cc ret ini d MC MS nL post pc lo (.int x :: st) ce sl n sh I L R := by
  intro p e R0 s m args below meth c H locs ls hc hP hS hl
  exact lv_ineg hc.1 hc.2.1 hd  (k _ rfl p e R0 s m args below meth c H locs ls hc hP hS hl)
theorem V_lneg {x : Int64} (hd : decode cc pc = .ok (.lneg, 1)) (k : ∀ z : Int64, z = -x → V G own cc ret ini d MC MS nL post (pc + 1) lo (.long z :: st) ce sl n sh I L R) : V G own cc ret ini d MC MS nL post pc lo (.long x :: st) ce sl n sh I L R := by
  intro p e R0 s m args below meth c H locs ls hc hP hS hl
  exact lv_lneg hc.1 hc.2.1 hd  (k _ rfl p e R0 s m args below meth c H locs ls hc hP hS hl)
theorem V_i2l {x : Int32} (hd : decode cc pc = .ok (.i2l, 1)) (k : ∀ z : Int64, z = x.toInt64 → V G own cc ret ini d MC MS nL post (pc + 1) lo (.long z :: st) ce sl n sh I L R) : V G own cc ret ini d MC MS nL post pc lo (.int x :: st) ce sl n sh I L R := by
  intro p e R0 s m args below meth c H locs ls hc hP hS hl
  exact lv_i2l hc.1 hc.2.1 hd rfl (k _ rfl p e R0 s m args below meth c H locs ls hc hP hS hl)
theorem V_l2i {x : Int64} (hd : decode cc pc = .ok (.l2i, 1)) (k : ∀ z : Int32, z = x.toInt32 → V G own cc ret ini d MC MS nL post (pc + 1) lo (.int z :: st) ce sl n sh I L R) : V G own cc ret ini d MC MS nL post pc lo (.long x :: st) ce sl n sh I L R := by
  intro p e R0 s m args below meth c H locs ls hc hP hS hl
  exact lv_l2i hc.1 hc.2.1 hd rfl (k _ rfl p e R0 s m args below meth c H locs ls hc hP hS hl)
theorem V_i2b {x : Int32} (hd : decode cc pc = .ok (.i2b, 1)) (k : ∀ z : Int32, z = x.toInt8.toInt32 → V G own cc ret ini d MC MS nL post (pc + 1) lo (.int z :: st) ce sl n sh I L R) : V G own cc ret ini d MC MS nL post pc lo (.int x :: st) ce sl n sh I L R := by
  intro p e R0 s m args below meth c H locs ls hc hP hS hl
  exact lv_i2b hc.1 hc.2.1 hd rfl (k _ rfl p e R0 s m args below meth c H locs ls hc hP hS hl)
theorem V_i2s {x : Int32} (hd : decode cc pc = .ok (.i2s, 1)) (k : ∀ z : Int32, z = x.toInt16.toInt32 → V G own cc ret ini d MC MS nL post (pc + 1) lo (.int z :: st) ce sl n sh I L R) : V G own cc ret ini d MC MS nL post pc lo (.int x :: st) ce sl n sh I L R := by
  intro p e R0 s m args below meth c H locs ls hc hP hS hl
  exact lv_i2s hc.1 hc.2.1 hd rfl (k _ rfl p e R0 s m args below meth c H locs ls hc hP hS hl)
theorem V_dup {va : Value} (hd : decode cc pc = .ok (.dup, 1)) (hva : va.category = 1) (k : V G own cc ret ini d MC MS nL post (pc + 1) lo (va :: va :: st) ce sl n sh I L R) : V G own cc ret ini d MC MS nL post pc lo (va :: st) ce sl n sh I L R := by
  intro p e R0 s m args below meth c H locs ls hc hP hS hl
  exact lv_dup hc.1 hc.2.1 hd hva (k p e R0 s m args below meth c H locs ls hc hP hS hl)
theorem V_pop {va : Value} (hd : decode cc pc = .ok (.pop, 1)) (hva : va.category = 1) (k : V G own cc ret ini d MC MS nL post (pc + 1) lo (st) ce sl n sh I L R) : V G own cc ret ini d MC MS nL post pc lo (va :: st) ce sl n sh I L R := by
  intro p e R0 s m args below meth c H locs ls hc hP hS hl
  exact lv_pop hc.1 hc.2.1 hd hva (k p e R0 s m args below meth c H locs ls hc hP hS hl)
theorem V_dup_x1 {va vb : Value} (hd : decode cc pc = .ok (.dup_x1, 1)) (hva : va.category = 1) (hvb : vb.category = 1) (k : V G own cc ret ini d MC MS nL post (pc + 1) lo (va :: vb :: va :: st) ce sl n sh I L R) : V G own cc ret ini d MC MS nL post pc lo (va :: vb :: st) ce sl n sh I L R := by
  intro p e R0 s m args below meth c H locs ls hc hP hS hl
  exact lv_dup_x1 hc.1 hc.2.1 hd hva hvb (k p e R0 s m args below meth c H locs ls hc hP hS hl)
theorem V_dup2 {va vb : Value} (hd : decode cc pc = .ok (.dup2, 1)) (hva : va.category = 1) (hvb : vb.category = 1) (k : V G own cc ret ini d MC MS nL post (pc + 1) lo (va :: vb :: va :: vb :: st) ce sl n sh I L R) : V G own cc ret ini d MC MS nL post pc lo (va :: vb :: st) ce sl n sh I L R := by
  intro p e R0 s m args below meth c H locs ls hc hP hS hl
  exact lv_dup2_11 hc.1 hc.2.1 hd hva hvb (k p e R0 s m args below meth c H locs ls hc hP hS hl)
theorem V_null  (hd : decode cc pc = .ok (.aconst_null, 1))  (k : V G own cc ret ini d MC MS nL post (pc + 1) lo (.null :: st) ce sl n sh I L R) : V G own cc ret ini d MC MS nL post pc lo (st) ce sl n sh I L R := by
  intro p e R0 s m args below meth c H locs ls hc hP hS hl
  exact lv_null hc.1 hc.2.1 hd  (k p e R0 s m args below meth c H locs ls hc hP hS hl)
theorem ti_lt {a b : Int32} : a < b ↔ a.toInt < b.toInt := Int32.lt_iff_toInt_lt
theorem ti_le {a b : Int32} : a ≤ b ↔ a.toInt ≤ b.toInt := Int32.le_iff_toInt_le
theorem ti_eq {a b : Int32} : a = b ↔ a.toInt = b.toInt := ⟨fun h => by rw [h], fun h => Int32.toInt_inj.mp h⟩
theorem ti_0 : (0 : Int32).toInt = 0 := rfl
theorem V_icmp_eq {x y : Int32} {off : Int} {tgt : Nat} (hd : decode cc pc = .ok (.if_icmp .eq off, 3)) (ht : (pc : Int) + off = (tgt : Int)) (kt : x.toInt = y.toInt → V G own cc ret ini d MC MS nL post tgt lo st ce sl n sh I L R) (kf : x.toInt ≠ y.toInt → V G own cc ret ini d MC MS nL post (pc + 3) lo st ce sl n sh I L R) : V G own cc ret ini d MC MS nL post pc lo (.int y :: .int x :: st) ce sl n sh I L R := by
  intro p e R0 s m args below meth c H locs ls hc hP hS hl
  refine lv_icmp_eq hc.1 hc.2.1 hd ht (fun q => kt ?_ p e R0 s m args below meth c H locs ls hc hP hS hl) (fun q => kf ?_ p e R0 s m args below meth c H locs ls hc hP hS hl)
  all_goals (simp only [ti_lt, ti_le, ti_eq, ne_eq, GE.ge, GT.gt] at q; omega)
theorem V_if_eq {x : Int32} {off : Int} {tgt : Nat} (hd : decode cc pc = .ok (.ifCond .eq off, 3)) (ht : (pc : Int) + off = (tgt : Int)) (kt : x.toInt = 0 → V G own cc ret ini d MC MS nL post tgt lo st ce sl n sh I L R) (kf : x.toInt ≠ 0 → V G own cc ret ini d MC MS nL post (pc + 3) lo st ce sl n sh I L R) : V G own cc ret ini d MC MS nL post pc lo (.int x :: st) ce sl n sh I L R := by
  intro p e R0 s m args below meth c H locs ls hc hP hS hl
  refine lv_if_eq hc.1 hc.2.1 hd ht (fun q => kt ?_ p e R0 s m args below meth c H locs ls hc hP hS hl) (fun q => kf ?_ p e R0 s m args below meth c H locs ls hc hP hS hl)
  all_goals (simp only [ti_lt, ti_le, ti_eq, ne_eq, GE.ge, GT.gt, ti_0] at q; omega)
theorem V_if_eq_t {x : Int32} {off : Int} {tgt : Nat} (hd : decode cc pc = .ok (.ifCond .eq off, 3)) (ht : (pc : Int) + off = (tgt : Int)) (hq : x.toInt = 0) (k : V G own cc ret ini d MC MS nL post tgt lo st ce sl n sh I L R) : V G own cc ret ini d MC MS nL post pc lo (.int x :: st) ce sl n sh I L R := V_if_eq hd ht (fun _ => k) (fun q => by omega)
theorem V_if_eq_f {x : Int32} {off : Int} {tgt : Nat} (hd : decode cc pc = .ok (.ifCond .eq off, 3)) (ht : (pc : Int) + off = (tgt : Int)) (hq : x.toInt ≠ 0) (k : V G own cc ret ini d MC MS nL post (pc + 3) lo st ce sl n sh I L R) : V G own cc ret ini d MC MS nL post pc lo (.int x :: st) ce sl n sh I L R := V_if_eq hd ht (fun q => by omega) (fun _ => k)
theorem V_icmp_ne {x y : Int32} {off : Int} {tgt : Nat} (hd : decode cc pc = .ok (.if_icmp .ne off, 3)) (ht : (pc : Int) + off = (tgt : Int)) (kt : x.toInt ≠ y.toInt → V G own cc ret ini d MC MS nL post tgt lo st ce sl n sh I L R) (kf : x.toInt = y.toInt → V G own cc ret ini d MC MS nL post (pc + 3) lo st ce sl n sh I L R) : V G own cc ret ini d MC MS nL post pc lo (.int y :: .int x :: st) ce sl n sh I L R := by
  intro p e R0 s m args below meth c H locs ls hc hP hS hl
  refine lv_icmp_ne hc.1 hc.2.1 hd ht (fun q => kt ?_ p e R0 s m args below meth c H locs ls hc hP hS hl) (fun q => kf ?_ p e R0 s m args below meth c H locs ls hc hP hS hl)
  all_goals (simp only [ti_lt, ti_le, ti_eq, ne_eq, GE.ge, GT.gt] at q; omega)
theorem V_if_ne {x : Int32} {off : Int} {tgt : Nat} (hd : decode cc pc = .ok (.ifCond .ne off, 3)) (ht : (pc : Int) + off = (tgt : Int)) (kt : x.toInt ≠ 0 → V G own cc ret ini d MC MS nL post tgt lo st ce sl n sh I L R) (kf : x.toInt = 0 → V G own cc ret ini d MC MS nL post (pc + 3) lo st ce sl n sh I L R) : V G own cc ret ini d MC MS nL post pc lo (.int x :: st) ce sl n sh I L R := by
  intro p e R0 s m args below meth c H locs ls hc hP hS hl
  refine lv_if_ne hc.1 hc.2.1 hd ht (fun q => kt ?_ p e R0 s m args below meth c H locs ls hc hP hS hl) (fun q => kf ?_ p e R0 s m args below meth c H locs ls hc hP hS hl)
  all_goals (simp only [ti_lt, ti_le, ti_eq, ne_eq, GE.ge, GT.gt, ti_0] at q; omega)
theorem V_if_ne_t {x : Int32} {off : Int} {tgt : Nat} (hd : decode cc pc = .ok (.ifCond .ne off, 3)) (ht : (pc : Int) + off = (tgt : Int)) (hq : x.toInt ≠ 0) (k : V G own cc ret ini d MC MS nL post tgt lo st ce sl n sh I L R) : V G own cc ret ini d MC MS nL post pc lo (.int x :: st) ce sl n sh I L R := V_if_ne hd ht (fun _ => k) (fun q => by omega)
theorem V_if_ne_f {x : Int32} {off : Int} {tgt : Nat} (hd : decode cc pc = .ok (.ifCond .ne off, 3)) (ht : (pc : Int) + off = (tgt : Int)) (hq : x.toInt = 0) (k : V G own cc ret ini d MC MS nL post (pc + 3) lo st ce sl n sh I L R) : V G own cc ret ini d MC MS nL post pc lo (.int x :: st) ce sl n sh I L R := V_if_ne hd ht (fun q => by omega) (fun _ => k)
theorem V_icmp_lt {x y : Int32} {off : Int} {tgt : Nat} (hd : decode cc pc = .ok (.if_icmp .lt off, 3)) (ht : (pc : Int) + off = (tgt : Int)) (kt : x.toInt < y.toInt → V G own cc ret ini d MC MS nL post tgt lo st ce sl n sh I L R) (kf : y.toInt ≤ x.toInt → V G own cc ret ini d MC MS nL post (pc + 3) lo st ce sl n sh I L R) : V G own cc ret ini d MC MS nL post pc lo (.int y :: .int x :: st) ce sl n sh I L R := by
  intro p e R0 s m args below meth c H locs ls hc hP hS hl
  refine lv_icmp_lt hc.1 hc.2.1 hd ht (fun q => kt ?_ p e R0 s m args below meth c H locs ls hc hP hS hl) (fun q => kf ?_ p e R0 s m args below meth c H locs ls hc hP hS hl)
  all_goals (simp only [ti_lt, ti_le, ti_eq, ne_eq, GE.ge, GT.gt] at q; omega)
theorem V_if_lt {x : Int32} {off : Int} {tgt : Nat} (hd : decode cc pc = .ok (.ifCond .lt off, 3)) (ht : (pc : Int) + off = (tgt : Int)) (kt : x.toInt < 0 → V G own cc ret ini d MC MS nL post tgt lo st ce sl n sh I L R) (kf : 0 ≤ x.toInt → V G own cc ret ini d MC MS nL post (pc + 3) lo st ce sl n sh I L R) : V G own cc ret ini d MC MS nL post pc lo (.int x :: st) ce sl n sh I L R := by
  intro p e R0 s m args below meth c H locs ls hc hP hS hl
  refine lv_if_lt hc.1 hc.2.1 hd ht (fun q => kt ?_ p e R0 s m args below meth c H locs ls hc hP hS hl) (fun q => kf ?_ p e R0 s m args below meth c H locs ls hc hP hS hl)
  all_goals (simp only [ti_lt, ti_le, ti_eq, ne_eq, GE.ge, GT.gt, ti_0] at q; omega)
theorem V_if_lt_t {x : Int32} {off : Int} {tgt : Nat} (hd : decode cc pc = .ok (.ifCond .lt off, 3)) (ht : (pc : Int) + off = (tgt : Int)) (hq : x.toInt < 0) (k : V G own cc ret ini d MC MS nL post tgt lo st ce sl n sh I L R) : V G own cc ret ini d MC MS nL post pc lo (.int x :: st) ce sl n sh I L R := V_if_lt hd ht (fun _ => k) (fun q => by omega)
theorem V_if_lt_f {x : Int32} {off : Int} {tgt : Nat} (hd : decode cc pc = .ok (.ifCond .lt off, 3)) (ht : (pc : Int) + off = (tgt : Int)) (hq : 0 ≤ x.toInt) (k : V G own cc ret ini d MC MS nL post (pc + 3) lo st ce sl n sh I L R) : V G own cc ret ini d MC MS nL post pc lo (.int x :: st) ce sl n sh I L R := V_if_lt hd ht (fun q => by omega) (fun _ => k)
theorem V_icmp_ge {x y : Int32} {off : Int} {tgt : Nat} (hd : decode cc pc = .ok (.if_icmp .ge off, 3)) (ht : (pc : Int) + off = (tgt : Int)) (kt : y.toInt ≤ x.toInt → V G own cc ret ini d MC MS nL post tgt lo st ce sl n sh I L R) (kf : x.toInt < y.toInt → V G own cc ret ini d MC MS nL post (pc + 3) lo st ce sl n sh I L R) : V G own cc ret ini d MC MS nL post pc lo (.int y :: .int x :: st) ce sl n sh I L R := by
  intro p e R0 s m args below meth c H locs ls hc hP hS hl
  refine lv_icmp_ge hc.1 hc.2.1 hd ht (fun q => kt ?_ p e R0 s m args below meth c H locs ls hc hP hS hl) (fun q => kf ?_ p e R0 s m args below meth c H locs ls hc hP hS hl)
  all_goals (simp only [ti_lt, ti_le, ti_eq, ne_eq, GE.ge, GT.gt] at q; omega)
theorem V_if_ge {x : Int32} {off : Int} {tgt : Nat} (hd : decode cc pc = .ok (.ifCond .ge off, 3)) (ht : (pc : Int) + off = (tgt : Int)) (kt : 0 ≤ x.toInt → V G own cc ret ini d MC MS nL post tgt lo st ce sl n sh I L R) (kf : x.toInt < 0 → V G own cc ret ini d MC MS nL post (pc + 3) lo st ce sl n sh I L R) : V G own cc ret ini d MC MS nL post pc lo (.int x :: st) ce sl n sh I L R := by
  intro p e R0 s m args below meth c H locs ls hc hP hS hl
  refine lv_if_ge hc.1 hc.2.1 hd ht (fun q => kt ?_ p e R0 s m args below meth c H locs ls hc hP hS hl) (fun q => kf ?_ p e R0 s m args below meth c H locs ls hc hP hS hl)
  all_goals (simp only [ti_lt, ti_le, ti_eq, ne_eq, GE.ge, GT.gt, ti_0] at q; omega)
theorem V_if_ge_t {x : Int32} {off : Int} {tgt : Nat} (hd : decode cc pc = .ok (.ifCond .ge off, 3)) (ht : (pc : Int) + off = (tgt : Int)) (hq : 0 ≤ x.toInt) (k : V G own cc ret ini d MC MS nL post tgt lo st ce sl n sh I L R) : V G own cc ret ini d MC MS nL post pc lo (.int x :: st) ce sl n sh I L R := V_if_ge hd ht (fun _ => k) (fun q => by omega)
theorem V_if_ge_f {x : Int32} {off : Int} {tgt : Nat} (hd : decode cc pc = .ok (.ifCond .ge off, 3)) (ht : (pc : Int) + off = (tgt : Int)) (hq : x.toInt < 0) (k : V G own cc ret ini d MC MS nL post (pc + 3) lo st ce sl n sh I L R) : V G own cc ret ini d MC MS nL post pc lo (.int x :: st) ce sl n sh I L R := V_if_ge hd ht (fun q => by omega) (fun _ => k)
theorem V_icmp_gt {x y : Int32} {off : Int} {tgt : Nat} (hd : decode cc pc = .ok (.if_icmp .gt off, 3)) (ht : (pc : Int) + off = (tgt : Int)) (kt : y.toInt < x.toInt → V G own cc ret ini d MC MS nL post tgt lo st ce sl n sh I L R) (kf : x.toInt ≤ y.toInt → V G own cc ret ini d MC MS nL post (pc + 3) lo st ce sl n sh I L R) : V G own cc ret ini d MC MS nL post pc lo (.int y :: .int x :: st) ce sl n sh I L R := by
  intro p e R0 s m args below meth c H locs ls hc hP hS hl
  refine lv_icmp_gt hc.1 hc.2.1 hd ht (fun q => kt ?_ p e R0 s m args below meth c H locs ls hc hP hS hl) (fun q => kf ?_ p e R0 s m args below meth c H locs ls hc hP hS hl)
  all_goals (simp only [ti_lt, ti_le, ti_eq, ne_eq, GE.ge, GT.gt] at q; omega)
theorem V_if_gt {x : Int32} {off : Int} {tgt : Nat} (hd : decode cc pc = .ok (.ifCond .gt off, 3)) (ht : (pc : Int) + off = (tgt : Int)) (kt : 0 < x.toInt → V G own cc ret ini d MC MS nL post tgt lo st ce sl n sh I L R) (kf : x.toInt ≤ 0 → V G own cc ret ini d MC MS nL post (pc + 3) lo st ce sl n sh I L R) : V G own cc ret ini d MC MS nL post pc lo (.int x :: st) ce sl n sh I L R := by
  intro p e R0 s m args below meth c H locs ls hc hP hS hl
  refine lv_if_gt hc.1 hc.2.1 hd ht (fun q => kt ?_ p e R0 s m args below meth c H locs ls hc hP hS hl) (fun q => kf ?_ p e R0 s m args below meth c H locs ls hc hP hS hl)
  all_goals (simp only [ti_lt, ti_le, ti_eq, ne_eq, GE.ge, GT.gt, ti_0] at q; omega)
theorem V_if_gt_t {x : Int32} {off : Int} {tgt : Nat} (hd : decode cc pc = .ok (.ifCond .gt off, 3)) (ht : (pc : Int) + off = (tgt : Int)) (hq : 0 < x.toInt) (k : V G own cc ret ini d MC MS nL post tgt lo st ce sl n sh I L R) : V G own cc ret ini d MC MS nL post pc lo (.int x :: st) ce sl n sh I L R := V_if_gt hd ht (fun _ => k) (fun q => by omega)
theorem V_if_gt_f {x : Int32} {off : Int} {tgt : Nat} (hd : decode cc pc = .ok (.ifCond .gt off, 3)) (ht : (pc : Int) + off = (tgt : Int)) (hq : x.toInt ≤ 0) (k : V G own cc ret ini d MC MS nL post (pc + 3) lo st ce sl n sh I L R) : V G own cc ret ini d MC MS nL post pc lo (.int x :: st) ce sl n sh I L R := V_if_gt hd ht (fun q => by omega) (fun _ => k)
theorem V_icmp_le {x y : Int32} {off : Int} {tgt : Nat} (hd : decode cc pc = .ok (.if_icmp .le off, 3)) (ht : (pc : Int) + off = (tgt : Int)) (kt : x.toInt ≤ y.toInt → V G own cc ret ini d MC MS nL post tgt lo st ce sl n sh I L R) (kf : y.toInt < x.toInt → V G own cc ret ini d MC MS nL post (pc + 3) lo st ce sl n sh I L R) : V G own cc ret ini d MC MS nL post pc lo (.int y :: .int x :: st) ce sl n sh I L R := by
  intro p e R0 s m args below meth c H locs ls hc hP hS hl
  refine lv_icmp_le hc.1 hc.2.1 hd ht (fun q => kt ?_ p e R0 s m args below meth c H locs ls hc hP hS hl) (fun q => kf ?_ p e R0 s m args below meth c H locs ls hc hP hS hl)
  all_goals (simp only [ti_lt, ti_le, ti_eq, ne_eq, GE.ge, GT.gt] at q; omega)
theorem V_if_le {x : Int32} {off : Int} {tgt : Nat} (hd : decode cc pc = .ok (.ifCond .le off, 3)) (ht : (pc : Int) + off = (tgt : Int)) (kt : x.toInt ≤ 0 → V G own cc ret ini d MC MS nL post tgt lo st ce sl n sh I L R) (kf : 0 < x.toInt → V G own cc ret ini d MC MS nL post (pc + 3) lo st ce sl n sh I L R) : V G own cc ret ini d MC MS nL post pc lo (.int x :: st) ce sl n sh I L R := by
  intro p e R0 s m args below meth c H locs ls hc hP hS hl
  refine lv_if_le hc.1 hc.2.1 hd ht (fun q => kt ?_ p e R0 s m args below meth c H locs ls hc hP hS hl) (fun q => kf ?_ p e R0 s m args below meth c H locs ls hc hP hS hl)
  all_goals (simp only [ti_lt, ti_le, ti_eq, ne_eq, GE.ge, GT.gt, ti_0] at q; omega)
theorem V_if_le_t {x : Int32} {off : Int} {tgt : Nat} (hd : decode cc pc = .ok (.ifCond .le off, 3)) (ht : (pc : Int) + off = (tgt : Int)) (hq : x.toInt ≤ 0) (k : V G own cc ret ini d MC MS nL post tgt lo st ce sl n sh I L R) : V G own cc ret ini d MC MS nL post pc lo (.int x :: st) ce sl n sh I L R := V_if_le hd ht (fun _ => k) (fun q => by omega)
theorem V_if_le_f {x : Int32} {off : Int} {tgt : Nat} (hd : decode cc pc = .ok (.ifCond .le off, 3)) (ht : (pc : Int) + off = (tgt : Int)) (hq : 0 < x.toInt) (k : V G own cc ret ini d MC MS nL post (pc + 3) lo st ce sl n sh I L R) : V G own cc ret ini d MC MS nL post pc lo (.int x :: st) ce sl n sh I L R := V_if_le hd ht (fun q => by omega) (fun _ => k)
theorem V_goto {off : Int} {tgt : Nat} (hd : decode cc pc = .ok (.goto off, 3)) (ht : (pc : Int) + off = (tgt : Int)) (k : V G own cc ret ini d MC MS nL post tgt lo st ce sl n sh I L R) : V G own cc ret ini d MC MS nL post pc lo st ce sl n sh I L R := by
  intro p e R0 s m args below meth c H locs ls hc hP hS hl
  exact lv_goto hc.1 hc.2.1 hd ht (k p e R0 s m args below meth c H locs ls hc hP hS hl)
theorem V_ifnull_r {x : Nat} {off : Int} (hd : decode cc pc = .ok (.ifnull off, 3)) (k : V G own cc ret ini d MC MS nL post (pc + 3) lo st ce sl n sh I L R) : V G own cc ret ini d MC MS nL post pc lo (.ref x :: st) ce sl n sh I L R := by
  intro p e R0 s m args below meth c H locs ls hc hP hS hl
  exact lv_ifnull hc.1 hc.2.1 hd (k p e R0 s m args below meth c H locs ls hc hP hS hl)
theorem V_ifnull_n {off : Int} {tgt : Nat} (hd : decode cc pc = .ok (.ifnull off, 3)) (ht : (pc : Int) + off = (tgt : Int)) (k : V G own cc ret ini d MC MS nL post tgt lo st ce sl n sh I L R) : V G own cc ret ini d MC MS nL post pc lo (.null :: st) ce sl n sh I L R := by
  intro p e R0 s m args below meth c H locs ls hc hP hS hl
  exact lv_ifnullN hc.1 hc.2.1 hd ht (k p e R0 s m args below meth c H locs ls hc hP hS hl)
theorem V_ifnonnull_r {x : Nat} {off : Int} {tgt : Nat} (hd : decode cc pc = .ok (.ifnonnull off, 3)) (ht : (pc : Int) + off = (tgt : Int)) (k : V G own cc ret ini d MC MS nL post tgt lo st ce sl n sh I L R) : V G own cc ret ini d MC MS nL post pc lo (.ref x :: st) ce sl n sh I L R := by
  intro p e R0 s m args below meth c H locs ls hc hP hS hl
  exact lv_ifnonnull hc.1 hc.2.1 hd ht (k p e R0 s m args below meth c H locs ls hc hP hS hl)
theorem V_ifnonnull_n {off : Int} (hd : decode cc pc = .ok (.ifnonnull off, 3)) (k : V G own cc ret ini d MC MS nL post (pc + 3) lo st ce sl n sh I L R) : V G own cc ret ini d MC MS nL post pc lo (.null :: st) ce sl n sh I L R := by
  intro p e R0 s m args below meth c H locs ls hc hP hS hl
  exact lv_ifnonnullN hc.1 hc.2.1 hd (k p e R0 s m args below meth c H locs ls hc hP hS hl)
theorem V_tableIn {dflt a b : Int} {offs : Array Int} {len : Nat} {x : Int32} {off : Int} {tgt : Nat} (hd : decode cc pc = .ok (.tableswitch dflt a b offs, len)) (h1 : a ≤ x.toInt) (h2 : x.toInt ≤ b) (ho : offs[(x.toInt - a).toNat]? = some off) (ht : (pc : Int) + off = (tgt : Int)) (k : V G own cc ret ini d MC MS nL post tgt lo st ce sl n sh I L R) : V G own cc ret ini d MC MS nL post pc lo (.int x :: st) ce sl n sh I L R := by
  intro p e R0 s m args below meth c H locs ls hc hP hS hl
  exact lv_tableIn hc.1 hc.2.1 hd (by omega) (by omega) ho ht (k p e R0 s m args below meth c H locs ls hc hP hS hl)
theorem V_tableOut {dflt a b : Int} {offs : Array Int} {len : Nat} {x : Int32} {tgt : Nat} (hd : decode cc pc = .ok (.tableswitch dflt a b offs, len)) (h : x.toInt < a ∨ b < x.toInt) (ht : (pc : Int) + dflt = (tgt : Int)) (k : V G own cc ret ini d MC MS nL post tgt lo st ce sl n sh I L R) : V G own cc ret ini d MC MS nL post pc lo (.int x :: st) ce sl n sh I L R := by
  intro p e R0 s m args below meth c H locs ls hc hP hS hl
  exact lv_tableOut hc.1 hc.2.1 hd h ht (k p e R0 s m args below meth c H locs ls hc hP hS hl)
theorem V_lcmp {x y : Int64} (hd : decode cc pc = .ok (.lcmp, 1)) (k : ∀ z : Int32, z = lg_cmp x y → V G own cc ret ini d MC MS nL post (pc + 1) lo (.int z :: st) ce sl n sh I L R) : V G own cc ret ini d MC MS nL post pc lo (.long y :: .long x :: st) ce sl n sh I L R := by
  intro p e R0 s m args below meth c H locs ls hc hP hS hl
  exact W.lcmp hc.1 hc.2.1 hd (k _ rfl p e R0 s m args below meth c H locs ls hc hP hS hl)
theorem V_ldc {i : Nat} {v : Int32} (hd : decode cc pc = .ok (.ldc i, 2)) (hw : Cond.constant own i v ∈ vT) (k : V G own cc ret ini d MC MS nL post (pc + 2) lo (.int v :: st) ce sl n sh I L R) : V G own cc ret ini d MC MS nL post pc lo st ce sl n sh I L R := by
  intro p e R0 s m args below meth c H locs ls hc hP hS hl
  exact lv_ldc hc.1 hc.2.1 hc.2.2.2.2.1 (hc.2.2.2.2.2.1 _ hw) hd (k p e R0 s m args below meth c H locs ls hc hP hS hl)
theorem V_ldcw {i : Nat} {v : Int32} (hd : decode cc pc = .ok (.ldc_w i, 3)) (hw : Cond.constant own i v ∈ vT) (k : V G own cc ret ini d MC MS nL post (pc + 3) lo (.int v :: st) ce sl n sh I L R) : V G own cc ret ini d MC MS nL post pc lo st ce sl n sh I L R := by
  intro p e R0 s m args below meth c H locs ls hc hP hS hl
  exact lv_ldcw hc.1 hc.2.1 hc.2.2.2.2.1 (hc.2.2.2.2.2.1 _ hw) hd (k p e R0 s m args below meth c H locs ls hc hP hS hl)
theorem V_ldc2 {i : Nat} {v : Int64} (hd : decode cc pc = .ok (.ldc2_w i, 3)) (hw : Cond.constantLong own i v ∈ vT) (k : V G own cc ret ini d MC MS nL post (pc + 3) lo (.long v :: st) ce sl n sh I L R) : V G own cc ret ini d MC MS nL post pc lo st ce sl n sh I L R := by
  intro p e R0 s m args below meth c H locs ls hc hP hS hl
  exact lv_ldc2 hc.1 hc.2.1 hc.2.2.2.2.1 (hc.2.2.2.2.2.1 _ hw) hd (k p e R0 s m args below meth c H locs ls hc hP hS hl)
theorem V_lo {lo' : List (Nat × Value)} (ks : List Nat) (hq : lv_pick lo ks = lo') (k : V G own cc ret ini d MC MS nL post pc lo' st ce sl n sh I L R) : V G own cc ret ini d MC MS nL post pc lo st ce sl n sh I L R := fun p e R0 s m args below meth c H locs ls hc hP hS hl => k p e R0 s m args below meth c H locs ls hc hP hS (lv_sub hl ks hq)
end VV
end
section
theorem tb_good : GoodIn vT vT := fun w hw => ⟨hw, good_of_word (List.mem_filter.mp hw).2⟩
theorem tb_sub {ws : List Cond} (h : ∀ w ∈ ws, w ∈ vT) : GoodIn vT ws := fun w hw => tb_good w (h w hw)
theorem tb_ws {y : MethodName} {cc : ByteArray} {nL : Nat} {ret : Option FieldType} (h : Cond.code y cc nL ret ∈ vT) : GoodIn vT (Cond.code y cc nL ret :: vT) := tb_sub fun w hw => by
  rcases List.mem_cons.mp hw with e | e
  · exact e ▸ h
  · exact e
/-- a field of a class, as a method of 'own' names it: to be read -/
def FK (own : String) (idx c k t : Nat) : Prop := ∃ (C : String) (T : u_T) (N : Nat), vwCl[c]? = some (C, T, N) ∧ k < N ∧ c < 13 ∧ (fT c)[k]? = some t ∧ (∀ w ∈ u_ws C T N, w ∈ vT) ∧ ∃ ref : String, Cond.fieldLink own idx ref (T k).2.1 (T k).2.2.1 ∈ vT ∧ (ref = (T k).1 ∨ Cond.sameField ref (T k).1 (T k).2.1 (T k).2.2.1 ∈ vT)
/-- the same, to be written -/
def FW (own : String) (idx c k t : Nat) (ty : FieldType) (fin : Bool) : Prop := ∃ (C : String) (T : u_T) (N : Nat) (ty0 : Nat → FieldType), vwCl[c]? = some (C, T, N) ∧ k < N ∧ c < 13 ∧ (fT c)[k]? = some t ∧ (∀ w ∈ u_ws C T N, w ∈ vT) ∧ Cond.fieldLink own idx (T k).1 (T k).2.1 (T k).2.2.1 ∈ vT ∧ (∀ k, k < N → parseFieldDescriptor (T k).2.2.1 = some (ty0 k)) ∧ (∀ a, a < N → ∀ b, b < N → a ≠ b → (T a).2.1 ≠ (T b).2.1) ∧ parseFieldDescriptor (T k).2.2.1 = some ty ∧ (T k).2.2.2 = fin ∧ (fin = true → (T k).1 = own)
theorem vcell_o {G : vG} {sh : vS} {I : vI} {L : vL} {R : vR} {i c : Nat} (hs : (sh i).1 = c) (hc : c < 13) : vcell G sh I L R i = .inr (c, rdl G (I i) (L i) (R i) 0 (fT c)) := by
  subst hs
  exact if_pos hc
theorem vcell_i {G : vG} {sh : vS} {I : vI} {L : vL} {R : vR} {i N : Nat} (hs : sh i = (13, N)) : vcell G sh I L R i = .inl (G.2.2.2.2 0, N, .inl (I i)) := by
  simp [vcell, hs]
theorem vcell_z {G : vG} {sh : vS} {I : vI} {L : vL} {R : vR} {i N : Nat} (hs : sh i = (14, N)) : vcell G sh I L R i = .inl (G.2.2.2.2 1, N, .inl (I i)) := by
  simp [vcell, hs]
theorem vcell_r {G : vG} {sh : vS} {I : vI} {L : vL} {R : vR} {i N t : Nat} (hs : sh i = (13 + t, N)) (ht : 2 ≤ t) : vcell G sh I L R i = .inl (G.2.2.2.2 t, N, .inr (.inr (.inr (.inr (fun k => vrf G (R i k)))))) := by
  have h1 : ¬ 13 + t < 13 := by omega
  have h2 : ¬ 13 + t < 15 := by omega
  have h3 : 13 + t - 13 = t := by omega
  simp [vcell, hs, h2, h3]
theorem vcell_eq {G : vG} {sh : vS} {I I' : vI} {L L' : vL} {R R' : vR} {j : Nat} (h1 : I' j = I j) (h2 : L' j = L j) (h3 : R' j = R j) : vcell G sh I' L' R' j = vcell G sh I L R j := by
  simp only [vcell, h1, h2, h3]
theorem up2_o {α : Type} {f : Nat → Nat → α} {i j k : Nat} {v : α} (h : j ≠ i) : up2 f i k v j = f j := by
  funext b
  simp [up2, h]
theorem up2_e {α : Type} {f : Nat → Nat → α} {i k : Nat} {v : α} : up2 f i k v i k = v := by simp [up2]
theorem up2_k {α : Type} {f : Nat → Nat → α} {i j k : Nat} {v : α} (h : j ≠ k) : up2 f i k v i j = f i j := by simp [up2, h]
theorem up2_upd {f : vI} {i k : Nat} {v : Int32} : up2 f i k v i = upd (f i) k v := by
  funext b
  simp [up2, upd]
theorem ix_in {x : Int32} {N : Nat} (h0 : 0 ≤ x.toInt) (h1 : x.toInt < N) : vp_in x N := vp_in_iff.mpr ⟨h0, h1⟩
section VH
variable {G : vG} {own : String} {cc : ByteArray} {ret : Option FieldType} {ini : Bool} {d MC MS nL : Nat} {post : PT} {pc : Nat} {lo : List (Nat × Value)} {st : List Value} {ce sl n : Nat} {sh : vS} {I : vI} {L : vL} {R : vR}
theorem V_get {c k t i idx : Nat} {v : Value} (hf : FK own idx c k t) (hv : fv G (I i) (L i) (R i) k t = v) (hd : decode cc pc = .ok (.getfield idx, 3)) (hi : i < n) (hs : (sh i).1 = c) (kk : V G own cc ret ini d MC MS nL post (pc + 3) lo (v :: st) ce sl n sh I L R) : V G own cc ret ini d MC MS nL post pc lo (.ref (ad G i) :: st) ce sl n sh I L R := by
  intro p e R0 s m args below meth c0 H locs ls hc hP hS hl
  obtain ⟨C, T, N, h1, h2, h3, h4, h5, ref, h6, h7⟩ := hf
  have he := vwl_get (G := G) (sh := sh) (I := I) (L := L) (R := R) hi
  rw [vcell_o hs h3] at he
  exact va_get (D := (G.2.2.1, G.2.2.2.1)) (ci := c) hc.1 hc.2.1 hc.2.2.2.2.2.1 h5 hc.2.2.2.2.1 hc.2.2.2.2.2.2.1.1 hP.2 i he h1 k h2 (hc.2.2.2.2.2.1 _ h6) (fun x h => h7.elim (fun z => by rw [z]; exact h) (fun z => u_same (hc.2.2.2.2.2.1 _ z) x h)) (v := v) (by rw [rdl_get, h4, ← hv]; simp) hd (kk p e R0 s m args below meth c0 H locs ls hc hP hS hl)
theorem V_getI {c k i idx : Nat} (hf : FK own idx c k 0) (hd : decode cc pc = .ok (.getfield idx, 3)) (hi : i < n) (hs : (sh i).1 = c) (kk : V G own cc ret ini d MC MS nL post (pc + 3) lo (.int (I i k) :: st) ce sl n sh I L R) : V G own cc ret ini d MC MS nL post pc lo (.ref (ad G i) :: st) ce sl n sh I L R := V_get hf rfl hd hi hs kk
theorem V_getL {c k i idx : Nat} (hf : FK own idx c k 1) (hd : decode cc pc = .ok (.getfield idx, 3)) (hi : i < n) (hs : (sh i).1 = c) (kk : V G own cc ret ini d MC MS nL post (pc + 3) lo (.long (L i k) :: st) ce sl n sh I L R) : V G own cc ret ini d MC MS nL post pc lo (.ref (ad G i) :: st) ce sl n sh I L R := V_get hf rfl hd hi hs kk
theorem V_getR {c k i j idx : Nat} (hf : FK own idx c k 2) (hr : R i k = some j) (hd : decode cc pc = .ok (.getfield idx, 3)) (hi : i < n) (hs : (sh i).1 = c) (kk : V G own cc ret ini d MC MS nL post (pc + 3) lo (.ref (ad G j) :: st) ce sl n sh I L R) : V G own cc ret ini d MC MS nL post pc lo (.ref (ad G i) :: st) ce sl n sh I L R := V_get hf (by simp [fv, hr, vrf, va_rf]) hd hi hs kk
theorem V_put {c k t i idx : Nat} {v : Value} {ty : FieldType} {I' : vI} {L' : vL} {R' : vR} (hf : FW own idx c k t ty false) (hn : narrow ty v = v) (hfit : fits ty v = true) (hd : decode cc pc = .ok (.putfield idx, 3)) (hi : i < n) (hs : (sh i).1 = c) (hv : fv G (I' i) (L' i) (R' i) k t = v) (ho : ∀ j u, j ≠ k → (fT c)[j]? = some u → fv G (I' i) (L' i) (R' i) j u = fv G (I i) (L i) (R i) j u) (hoo : ∀ j, j ≠ i → vcell G sh I' L' R' j = vcell G sh I L R j) (kk : V G own cc ret ini d MC MS nL post (pc + 3) lo st ce sl n sh I' L' R') : V G own cc ret ini d MC MS nL post pc lo (v :: .ref (ad G i) :: st) ce sl n sh I L R := by
  intro p e R0 s m args below meth c0 H locs ls hc hP hS hl
  obtain ⟨C, T, N, ty0, h1, h2, h3, h4, h5, h6, h7, h8, h9, h10, -⟩ := hf
  have he := vwl_get (G := G) (sh := sh) (I := I) (L := L) (R := R) hi
  rw [vcell_o hs h3] at he
  have hts := hc.2.2.2.2.2.1
  have hK := hc.2.2.2.2.2.2.1.1
  have hap := va_apart (own := own) hts h5 ty0 h7 h8 hK h1
  obtain ⟨r, g1, cell, q1, q2, q3, q4⟩ := hP.2 i _ he
  cases g1.symm.trans h1
  obtain ⟨hSl, hfc, kC, hkC, hkind⟩ := hK.1 c _ h1
  obtain ⟨cf, kf, fi, f, hfi, hsl⟩ := hSl k h2
  have hlay := hts _ (h5 _ (u_in_lay h2))
  unfold u_lay at hlay
  rw [if_neg (by rw [h10]; decide)] at hlay
  have hst := (u_facts hfc hkC (u_lays hts h5 h2) hfi).1
  have h11 := u_store hfc hkC hkind hlay hfi h9 hn hfit
  refine W.putK hc.1 hc.2.1 (f := f) ⟨hc.2.2.2.2.1, hts _ h6, ⟨_, _, _, hfi⟩, hst⟩ (by rw [q2]; exact h11) q1 q3 (by rw [hsl]; exact k2_hasslot (q4 k h2)) rfl rfl hd fun H' e1 e2 e3 => ?_
  rw [hsl] at e1 ⊢
  have hlen : k < (rdl G (I i) (L i) (R i) 0 (fT c)).length := by rw [rdl_len]; exact (List.getElem?_eq_some_iff.mp h4).1
  have hP' := hP.2.set vwl_D he (e := .inr (c, (rdl G (I i) (L i) (R i) 0 (fT c)).set k v)) ⟨_, h1, t_OB.to (V := updV (vp_V _) k v) ⟨_, e1, q2, q3, t_set q4 hap h2 v⟩ (fun j _ => vp_updV_set hlen v j)⟩ e3
  rw [rdl_set h4 hv ho, vwl_set (I' := I') (L' := L') (R' := R') (vcell_o hs h3) hoo] at hP'
  exact kk p e R0 s m args below meth c0 H' _ ls hc ⟨e2.trans hP.1, hP'⟩ (hS.put e2 e3 (Nat.le_add_right _ _)) hl
theorem V_putF {c k t i idx : Nat} {v : Value} {ty : FieldType} {I' : vI} {L' : vL} {R' : vR} (hin : ini = true) (hf : FW own idx c k t ty true) (hn : narrow ty v = v) (hfit : fits ty v = true) (hd : decode cc pc = .ok (.putfield idx, 3)) (hi : i < n) (hs : (sh i).1 = c) (hv : fv G (I' i) (L' i) (R' i) k t = v) (ho : ∀ j u, j ≠ k → (fT c)[j]? = some u → fv G (I' i) (L' i) (R' i) j u = fv G (I i) (L i) (R i) j u) (hoo : ∀ j, j ≠ i → vcell G sh I' L' R' j = vcell G sh I L R j) (kk : V G own cc ret ini d MC MS nL post (pc + 3) lo st ce sl n sh I' L' R') : V G own cc ret ini d MC MS nL post pc lo (v :: .ref (ad G i) :: st) ce sl n sh I L R := by
  intro p e R0 s m args below meth c0 H locs ls hc hP hS hl
  obtain ⟨C, T, N, ty0, h1, h2, h3, h4, h5, h6, h7, h8, h9, h10, h12⟩ := hf
  have he := vwl_get (G := G) (sh := sh) (I := I) (L := L) (R := R) hi
  rw [vcell_o hs h3] at he
  have hts := hc.2.2.2.2.2.1
  have hK := hc.2.2.2.2.2.2.1.1
  have hown := hc.2.2.2.2.1
  have hap := va_apart (own := own) hts h5 ty0 h7 h8 hK h1
  obtain ⟨r, g1, cell, q1, q2, q3, q4⟩ := hP.2 i _ he
  cases g1.symm.trans h1
  obtain ⟨hSl, hfc, kC, hkC, hkind⟩ := hK.1 c _ h1
  obtain ⟨cf, kf, fi, f, hfi, hsl⟩ := hSl k h2
  have hlay := hts _ (h5 _ (u_in_lay h2))
  unfold u_lay at hlay
  rw [if_pos h10] at hlay
  have hst := (u_facts hfc hkC (u_lays hts h5 h2) hfi).1
  have hcf : m.cls = cf := by
    obtain ⟨_, _, c', _, _, _, -, -, hf', -, -, -, hown2, -⟩ := Cond.laysFinal_spec hlay
    have e1 : c' = cf := by have := hfi.symm.trans hf'; simp at this; exact this.1.symm
    rw [h12 rfl] at hown2
    rw [← e1]; exact Option.some.inj (hown.symm.trans hown2)
  have h11 := u_fits hfc hkC hkind (Or.inr hlay) hfi h9 hn hfit
  refine W.putFinK hc.1 hc.2.1 hown (hts _ h6) hfi hst hcf (hc.2.2.2.2.2.2.2.2.1 hin) (by rw [q2]; exact h11) q1 q3 (by rw [hsl]; exact k2_hasslot (q4 k h2)) rfl rfl hd fun H' e1 e2 e3 => ?_
  rw [hsl] at e1 ⊢
  have hlen : k < (rdl G (I i) (L i) (R i) 0 (fT c)).length := by rw [rdl_len]; exact (List.getElem?_eq_some_iff.mp h4).1
  have hP' := hP.2.set vwl_D he (e := .inr (c, (rdl G (I i) (L i) (R i) 0 (fT c)).set k v)) ⟨_, h1, t_OB.to (V := updV (vp_V _) k v) ⟨_, e1, q2, q3, t_set q4 hap h2 v⟩ (fun j _ => vp_updV_set hlen v j)⟩ e3
  rw [rdl_set h4 hv ho, vwl_set (I' := I') (L' := L') (R' := R') (vcell_o hs h3) hoo] at hP'
  exact kk p e R0 s m args below meth c0 H' _ ls hc ⟨e2.trans hP.1, hP'⟩ (hS.put e2 e3 (Nat.le_add_right _ _)) hl
theorem fvI {i k : Nat} {x : Int32} : ∀ j u, j ≠ k → fv G (up2 I i k x i) (L i) (R i) j u = fv G (I i) (L i) (R i) j u := fun j u h => by simp [fv, up2_k h]
theorem fvL {i k : Nat} {x : Int64} : ∀ j u, j ≠ k → fv G (I i) (up2 L i k x i) (R i) j u = fv G (I i) (L i) (R i) j u := fun j u h => by simp [fv, up2_k h]
theorem fvR {i k : Nat} {x : Option Nat} : ∀ j u, j ≠ k → fv G (I i) (L i) (up2 R i k x i) j u = fv G (I i) (L i) (R i) j u := fun j u h => by simp [fv, up2_k h]
theorem V_putI {c k i idx : Nat} {x : Int32} {ty : FieldType} (hf : FW own idx c k 0 ty false) (hn : narrow ty (.int x) = .int x) (hfit : fits ty (.int x) = true) (hd : decode cc pc = .ok (.putfield idx, 3)) (hi : i < n) (hs : (sh i).1 = c) (kk : V G own cc ret ini d MC MS nL post (pc + 3) lo st ce sl n sh (up2 I i k x) L R) : V G own cc ret ini d MC MS nL post pc lo (.int x :: .ref (ad G i) :: st) ce sl n sh I L R :=
  V_put hf hn hfit hd hi hs (by simp [fv, up2_e]) (fun j u h _ => fvI j u h) (fun j h => vcell_eq (up2_o h) rfl rfl) kk
theorem V_putL {c k i idx : Nat} {x : Int64} {ty : FieldType} (hf : FW own idx c k 1 ty false) (hn : narrow ty (.long x) = .long x) (hfit : fits ty (.long x) = true) (hd : decode cc pc = .ok (.putfield idx, 3)) (hi : i < n) (hs : (sh i).1 = c) (kk : V G own cc ret ini d MC MS nL post (pc + 3) lo st ce sl n sh I (up2 L i k x) R) : V G own cc ret ini d MC MS nL post pc lo (.long x :: .ref (ad G i) :: st) ce sl n sh I L R :=
  V_put hf hn hfit hd hi hs (by simp [fv, up2_e]) (fun j u h _ => fvL j u h) (fun j h => vcell_eq rfl (up2_o h) rfl) kk
theorem V_putR {c k i j idx : Nat} {ty : FieldType} (hf : FW own idx c k 2 ty false) (hn : narrow ty (.ref (ad G j)) = .ref (ad G j)) (hfit : fits ty (.ref (ad G j)) = true) (hd : decode cc pc = .ok (.putfield idx, 3)) (hi : i < n) (hs : (sh i).1 = c) (kk : V G own cc ret ini d MC MS nL post (pc + 3) lo st ce sl n sh I L (up2 R i k (some j))) : V G own cc ret ini d MC MS nL post pc lo (.ref (ad G j) :: .ref (ad G i) :: st) ce sl n sh I L R :=
  V_put hf hn hfit hd hi hs (by simp [fv, up2_e, vrf, va_rf]) (fun j u h _ => fvR j u h) (fun j h => vcell_eq rfl rfl (up2_o h)) kk
theorem V_putIF {c k i idx : Nat} {x : Int32} {ty : FieldType} (hin : ini = true) (hf : FW own idx c k 0 ty true) (hn : narrow ty (.int x) = .int x) (hfit : fits ty (.int x) = true) (hd : decode cc pc = .ok (.putfield idx, 3)) (hi : i < n) (hs : (sh i).1 = c) (kk : V G own cc ret ini d MC MS nL post (pc + 3) lo st ce sl n sh (up2 I i k x) L R) : V G own cc ret ini d MC MS nL post pc lo (.int x :: .ref (ad G i) :: st) ce sl n sh I L R :=
  V_putF hin hf hn hfit hd hi hs (by simp [fv, up2_e]) (fun j u h _ => fvI j u h) (fun j h => vcell_eq (up2_o h) rfl rfl) kk
theorem V_putRF {c k i j idx : Nat} {ty : FieldType} (hin : ini = true) (hf : FW own idx c k 2 ty true) (hn : narrow ty (.ref (ad G j)) = .ref (ad G j)) (hfit : fits ty (.ref (ad G j)) = true) (hd : decode cc pc = .ok (.putfield idx, 3)) (hi : i < n) (hs : (sh i).1 = c) (kk : V G own cc ret ini d MC MS nL post (pc + 3) lo st ce sl n sh I L (up2 R i k (some j))) : V G own cc ret ini d MC MS nL post pc lo (.ref (ad G j) :: .ref (ad G i) :: st) ce sl n sh I L R :=
  V_putF hin hf hn hfit hd hi hs (by simp [fv, up2_e, vrf, va_rf]) (fun j u h _ => fvR j u h) (fun j h => vcell_eq rfl rfl (up2_o h)) kk
-- arrays
theorem V_iald {i N : Nat} {x : Int32} (hd : decode cc pc = .ok (.iaload, 1)) (hi : i < n) (hs : sh i = (13, N)) (h0 : 0 ≤ x.toInt) (h1 : x.toInt < N) (kk : V G own cc ret ini d MC MS nL post (pc + 1) lo (.int (I i x.toInt.toNat) :: st) ce sl n sh I L R) : V G own cc ret ini d MC MS nL post pc lo (.int x :: .ref (ad G i) :: st) ce sl n sh I L R := by
  intro p e R0 s m args below meth c0 H locs ls hc hP hS hl
  have he := vwl_get (G := G) (sh := sh) (I := I) (L := L) (R := R) hi
  rw [vcell_i hs] at he
  exact va_iald hc.1 hc.2.1 hc.2.2.2.2.2.2.1.1 hP.2 i 0 he rfl (ix_in h0 h1) hd (kk p e R0 s m args below meth c0 H locs ls hc hP hS hl)
theorem V_zald {i N : Nat} {x : Int32} (hd : decode cc pc = .ok (.baload, 1)) (hi : i < n) (hs : sh i = (14, N)) (h0 : 0 ≤ x.toInt) (h1 : x.toInt < N) (kk : V G own cc ret ini d MC MS nL post (pc + 1) lo (.int (I i x.toInt.toNat) :: st) ce sl n sh I L R) : V G own cc ret ini d MC MS nL post pc lo (.int x :: .ref (ad G i) :: st) ce sl n sh I L R := by
  intro p e R0 s m args below meth c0 H locs ls hc hP hS hl
  have he := vwl_get (G := G) (sh := sh) (I := I) (L := L) (R := R) hi
  rw [vcell_z hs] at he
  exact va_zald hc.1 hc.2.1 hc.2.2.2.2.2.2.1.1 hP.2 i 1 he rfl (ix_in h0 h1) hd (kk p e R0 s m args below meth c0 H locs ls hc hP hS hl)
theorem vty_t {t : Nat} (h2 : 2 ≤ t) (h6 : t < 6) : ∃ C, (vty G)[t]? = some (G.2.2.2.2 t, .object C) := by
  rcases (show t = 2 ∨ t = 3 ∨ t = 4 ∨ t = 5 by omega) with rfl | rfl | rfl | rfl <;> exact ⟨_, rfl⟩
theorem V_aald {i N t j : Nat} {x : Int32} (hd : decode cc pc = .ok (.aaload, 1)) (hi : i < n) (hs : sh i = (13 + t, N)) (ht : 2 ≤ t) (ht6 : t < 6) (h0 : 0 ≤ x.toInt) (h1 : x.toInt < N) (hr : R i x.toInt.toNat = some j) (kk : V G own cc ret ini d MC MS nL post (pc + 1) lo (.ref (ad G j) :: st) ce sl n sh I L R) : V G own cc ret ini d MC MS nL post pc lo (.int x :: .ref (ad G i) :: st) ce sl n sh I L R := by
  intro p e R0 s m args below meth c0 H locs ls hc hP hS hl
  have he := vwl_get (G := G) (sh := sh) (I := I) (L := L) (R := R) hi
  rw [vcell_r hs ht] at he
  obtain ⟨C, hC⟩ := vty_t (G := G) ht ht6
  refine va_aldq hc.1 hc.2.1 hc.2.2.2.2.2.2.1.1 hP.2 i t he hC (ix_in h0 h1) hd ?_
  have e1 : va_rf (vrf G (R i x.toNatClampNeg)) = .ref (ad G j) := by
    show va_rf (vrf G (R i x.toInt.toNat)) = _
    rw [hr]; rfl
  rw [e1]
  exact kk p e R0 s m args below meth c0 H locs ls hc hP hS hl
theorem V_alen {i N : Nat} {v : Int32} (hd : decode cc pc = .ok (.arraylength, 1)) (hi : i < n) (hs : sh i = (13, N)) (hv : Int32.ofNat N = v) (kk : V G own cc ret ini d MC MS nL post (pc + 1) lo (.int v :: st) ce sl n sh I L R) : V G own cc ret ini d MC MS nL post pc lo (.ref (ad G i) :: st) ce sl n sh I L R := by
  intro p e R0 s m args below meth c0 H locs ls hc hP hS hl
  have he := vwl_get (G := G) (sh := sh) (I := I) (L := L) (R := R) hi
  rw [vcell_i hs] at he
  exact va_alen hc.1 hc.2.1 hc.2.2.2.2.2.2.1.1 hP.2 i 0 he (ty := .int) rfl hv hd (kk p e R0 s m args below meth c0 H locs ls hc hP hS hl)
theorem V_iast {i N : Nat} {x y : Int32} (hd : decode cc pc = .ok (.iastore, 1)) (hi : i < n) (hs : sh i = (13, N)) (h0 : 0 ≤ x.toInt) (h1 : x.toInt < N) (kk : V G own cc ret ini d MC MS nL post (pc + 1) lo st ce sl n sh (up2 I i x.toInt.toNat y) L R) : V G own cc ret ini d MC MS nL post pc lo (.int y :: .int x :: .ref (ad G i) :: st) ce sl n sh I L R := by
  intro p e R0 s m args below meth c0 H locs ls hc hP hS hl
  have he := vwl_get (G := G) (sh := sh) (I := I) (L := L) (R := R) hi
  rw [vcell_i hs] at he
  refine W.iast hc.1 hc.2.1 (hP.2 i _ he) ((hc.2.2.2.2.2.2.1.1.2 0 _ rfl).1 N (fun j => .int (I i j))) (fun q => by cases q) (by show ¬ (x < 0 ∨ (arrV _ _ _).slots.size ≤ _); rw [arrV_size]; exact ix_in h0 h1) rfl rfl hd fun H1 e1 z oq => ?_
  have hP' := hP.2.set vwl_D he (e := .inl (G.2.2.2.2 0, N, .inl (upd (I i) x.toInt.toNat y))) (show H1[ad G i]? = some (vp_cell _ _) by
    rw [e1, vp_cell_i, vp_cell_i, arrV_store]
    congr 2
    funext q
    show updV _ x.toInt.toNat _ q = _
    by_cases hq : q = x.toInt.toNat
    · subst hq; simp [updV, upd]
    · rw [updV, upd, if_neg hq, if_neg hq]) oq
  rw [vwl_set (I' := up2 I i x.toInt.toNat y) (L' := L) (R' := R) (by rw [vcell_i hs, up2_upd]) (fun j h => vcell_eq (up2_o h) rfl rfl)] at hP'
  exact kk p e R0 s m args below meth c0 H1 _ ls hc ⟨z.trans hP.1, hP'⟩ (hS.put z oq (Nat.le_add_right _ _)) hl
theorem V_zast {i N : Nat} {x y : Int32} (hy : y = 0 ∨ y = 1) (hd : decode cc pc = .ok (.bastore, 1)) (hi : i < n) (hs : sh i = (14, N)) (h0 : 0 ≤ x.toInt) (h1 : x.toInt < N) (kk : V G own cc ret ini d MC MS nL post (pc + 1) lo st ce sl n sh (up2 I i x.toInt.toNat y) L R) : V G own cc ret ini d MC MS nL post pc lo (.int y :: .int x :: .ref (ad G i) :: st) ce sl n sh I L R := by
  intro p e R0 s m args below meth c0 H locs ls hc hP hS hl
  have he := vwl_get (G := G) (sh := sh) (I := I) (L := L) (R := R) hi
  rw [vcell_z hs] at he
  refine W.zast hc.1 hc.2.1 (hP.2 i _ he) ((hc.2.2.2.2.2.2.1.1.2 1 _ rfl).1 N (fun j => .int (I i j))) (fun q => by cases q) (by show ¬ (x < 0 ∨ (arrV _ _ _).slots.size ≤ _); rw [arrV_size]; exact ix_in h0 h1) rfl rfl hd fun H1 e1 z oq => ?_
  have hny : narrow .boolean (.int y) = .int y := by rcases hy with rfl | rfl <;> rfl
  rw [hny] at e1
  have hP' := hP.2.set vwl_D he (e := .inl (G.2.2.2.2 1, N, .inl (upd (I i) x.toInt.toNat y))) (show H1[ad G i]? = some (vp_cell _ _) by
    rw [e1, vp_cell_i, vp_cell_i, arrV_store]
    congr 2
    funext q
    show updV _ x.toInt.toNat _ q = _
    by_cases hq : q = x.toInt.toNat
    · subst hq; simp [updV, upd]
    · rw [updV, upd, if_neg hq, if_neg hq]) oq
  rw [vwl_set (I' := up2 I i x.toInt.toNat y) (L' := L) (R' := R) (by rw [vcell_z hs, up2_upd]) (fun j h => vcell_eq (up2_o h) rfl rfl)] at hP'
  exact kk p e R0 s m args below meth c0 H1 _ ls hc ⟨z.trans hP.1, hP'⟩ (hS.put z oq (Nat.le_add_right _ _)) hl
end VH
end
section
section VC
variable {G : vG} {own : String} {cc : ByteArray} {ret : Option FieldType} {ini : Bool} {d MC MS nL : Nat} {post : PT} {pc : Nat} {lo : List (Nat × Value)} {st : List Value} {ce sl n : Nat} {sh : vS} {I : vI} {L : vL} {R : vR}
theorem V_aast {i N t j q : Nat} {x : Int32} {r : vw_C} (hd : decode cc pc = .ok (.aastore, 1)) (hi : i < n) (hs : sh i = (13 + t, N)) (ht : 2 ≤ t) (hty : (vty G)[t]? = some (G.2.2.2.2 t, .object r.1)) (hj : j < n) (hq : (sh j).1 = q) (hq13 : q < 13) (hr : vwCl[q]? = some r) (h0 : 0 ≤ x.toInt) (h1 : x.toInt < N) (kk : V G own cc ret ini d MC MS nL post (pc + 1) lo st ce sl n sh I L (up2 R i x.toInt.toNat (some j))) : V G own cc ret ini d MC MS nL post pc lo (.ref (ad G j) :: .int x :: .ref (ad G i) :: st) ce sl n sh I L R := by
  intro p e R0 s m args below meth c0 H locs ls hc hP hS hl
  have hK := hc.2.2.2.2.2.2.1.1
  have he := vwl_get (G := G) (sh := sh) (I := I) (L := L) (R := R) hi
  rw [vcell_r hs ht] at he
  have hv := vwl_get (G := G) (sh := sh) (I := I) (L := L) (R := R) hj
  rw [vcell_o hq hq13] at hv
  obtain ⟨r', hr', cellV, g1, g2, g3, -⟩ := hP.2 j _ hv
  have hcls := (hK.1 q r hr).2
  obtain ⟨kA, comp, k1, k2, k3, -⟩ := (hK.2 t _ hty).2
  have hcomp : comp = G.2.2.1 q := Option.some.inj (k3.symm.trans hcls.1)
  subst hcomp
  obtain ⟨kC, hkC, -⟩ := hcls.2
  have hin := ix_in h0 h1
  refine W.aast hc.1 hc.2.1 (hP.2 i _ he) (fun z h => by cases h) (fun h => by cases h) k1 k2 rfl hkC ⟨fun z => hin (Or.inl z), by show _ < (arrV _ _ _).slots.size; rw [arrV_size]; exact Nat.not_le.mp fun z => hin (Or.inr z)⟩ g1 (fun z h => by rw [g3] at h; cases h) (by rw [g2]; exact hkC) (by rw [g2]; exact va_assign hcls) rfl rfl hd fun H1 e1 z oq => ?_
  have hP' := hP.2.set vwl_D he (e := .inl (G.2.2.2.2 t, N, .inr (.inr (.inr (.inr (fun k => vrf G (up2 R i x.toInt.toNat (some j) i k))))))) (show H1[ad G i]? = some (vp_cell _ _) by
    rw [e1, vp_cell_q, vp_cell_q, arrV_store]
    congr 2
    funext w
    show updV _ x.toInt.toNat _ w = _
    by_cases hw : w = x.toInt.toNat
    · subst hw; simp [updV, up2, vrf, va_rf]
    · rw [updV, if_neg hw, up2, if_neg (fun z => hw z.2)]) oq
  rw [vwl_set (I' := I) (L' := L) (R' := up2 R i x.toInt.toNat (some j)) (vcell_r hs ht) (fun w h => vcell_eq rfl rfl (up2_o h))] at hP'
  exact kk p e R0 s m args below meth c0 H1 _ ls hc ⟨z.trans hP.1, hP'⟩ (hS.put z oq (Nat.le_add_right _ _)) hl
theorem ad_s {G : vG} {n : Nat} : ad G n + 1 = ad G (n + 1) := Nat.add_assoc _ _ _
/-- a new object of class c, its fields 0 -/
theorem V_new {c N idx : Nat} {C : String} {T : u_T} {ty : Nat → FieldType} {sh' : vS} {I' : vI} {L' : vL} {R' : vR} (hc1 : vwCl[c]? = some (C, T, N)) (hc13 : c < 13) (hty : ∀ k, k < N → parseFieldDescriptor (T k).2.2.1 = some (ty k)) (hin : ∀ w ∈ u_ws C T N, w ∈ vT) (hlen : (fT c).length = N) (hfs : ∀ j t, (fT c)[j]? = some t → defaultValue (ty j) = if t = 0 then .int 0 else if t = 1 then .long 0 else .null)
    (hw : Cond.classLink own idx C ∈ vT ∧ Cond.instantiable C N ∈ vT ∧ Cond.initialized C ∈ vT) (hd : decode cc pc = .ok (.new idx, 3)) (hce : ce + 1 ≤ MC) (hsl : sl + N ≤ MS)
    (hs' : sh' = uph sh n (c, 0)) (hI : I' = uph I n (fun _ => 0)) (hL : L' = uph L n (fun _ => 0)) (hR : R' = uph R n (fun _ => none))
    (kk : V G own cc ret ini d MC MS nL post (pc + 3) lo (.ref (ad G n) :: st) (ce + 1) (sl + N) (n + 1) sh' I' L' R') : V G own cc ret ini d MC MS nL post pc lo st ce sl n sh I L R := by
  intro p e R0 s m args below meth c0 H locs ls hc hP hS hl
  have hts := hc.2.2.2.2.2.1
  have hK := hc.2.2.2.2.2.2.1.1
  have hKn := hK.1 c _ hc1
  have hR0 := hc.2.2.2.2.2.2.2.2.2.2.2
  refine W.newcK hc.1 hc.2.1 hc.2.2.2.2.1 (hts _ hw.1) (hts _ hw.2.1) (hts _ hw.2.2) rfl hd (by omega) (by omega) hKn.2.1 rfl fun H1 kC hkC e1 z1 o1 => ?_
  have hk : ∀ (k : Nat) (x : Nat × va_E), (vwl G n sh I L R)[k]? = some x → H1[x.1]? = H[x.1]? := fun k x hx => o1 x.1 ((hP.2 k x hx).lt)
  have hP' := (hP.2.kept hk).app (w2 := [(ad G n, .inr (c, rdl G (fun _ => 0) (fun _ => 0) (fun _ => none) 0 (fT c)))]) (fun k x hx => by
    have hz : k < 1 := (List.getElem?_eq_some_iff.mp hx).1
    rw [show k = 0 by omega] at hx
    cases hx
    rw [← hP.1]
    refine ⟨_, hc1, (u_born ty hts hin hKn hkC e1 hty).to (fun j hj => ?_)⟩
    have hj' : j < (fT c).length := by rw [hlen]; exact hj
    have ht := List.getElem?_eq_getElem hj'
    rw [hfs j _ ht]
    show _ = vp_V _ j
    have e2 : (rdl G (fun _ => 0) (fun _ => 0) (fun _ => none) 0 (fT c))[j]? = some (fv G (fun _ => 0) (fun _ => 0) (fun _ => none) j ((fT c)[j])) := by rw [rdl_get, ht]; simp
    simp only [vp_V, List.getD_eq_getElem?_getD, e2, fv, vrf, va_rf, Option.map_none, Option.getD_some])
  have hsn : (sh' n).1 = c := by rw [hs']; simp [uph]
  rw [vwl_push (sh' := sh') (I' := I') (L' := L') (R' := R') (by rw [vcell_o hsn hc13, hI, hL, hR]; simp [uph]) (fun j hj => by
    have hne : j ≠ n := by omega
    simp only [vcell, hs', hI, hL, hR, uph, hne, if_false])] at hP'
  have hS' : va_S (vA G) s.heap H1 locs := ⟨Nat.le_trans hS.1 (by omega), fun x h1 h2 => (o1 x (Nat.lt_of_lt_of_le h1 hS.1)).trans (hS.2.1 x h1 h2), hS.2.2⟩
  have hz : H1.size = ad G (n + 1) := by rw [z1, hP.1, ad_s]
  have e3 : H.size = ad G n := hP.1
  show W p G.1 e R0 s m args below meth c0 H1 locs (ce + 1) (sl + N) _ (F0 m (pc + 3) ls (.ref H.size :: st))
  rw [e3]
  exact kk p e R0 s m args below meth c0 H1 locs ls hc ⟨hz, hP'⟩ hS' hl
/-- a new array of numbers: t = 0 int, t = 1 boolean -/
theorem V_newa {t N : Nat} {at' : ArrayType} {ty : FieldType} {x : Int32} {sh' : vS} {I' : vI} {L' : vL} {R' : vR} (hat : newarray.typeOf at' = ty) (hty : (vty G)[t]? = some (G.2.2.2.2 t, ty)) (ht : t < 2) (hdv : defaultValue ty = .int 0) (hw : Cond.arrayClass ty ∈ vT) (hd : decode cc pc = .ok (.newarray at', 2)) (hx : x.toInt = N) (hN : N * componentBytes ty ≤ 536870912) (hce : ce + 1 ≤ MC) (hsl : sl + N ≤ MS)
    (hs' : sh' = uph sh n (13 + t, N)) (hI : I' = uph I n (fun _ => 0)) (hL : L' = uph L n (fun _ => 0)) (hR : R' = uph R n (fun _ => none))
    (kk : V G own cc ret ini d MC MS nL post (pc + 2) lo (.ref (ad G n) :: st) (ce + 1) (sl + N) (n + 1) sh' I' L' R') : V G own cc ret ini d MC MS nL post pc lo (.int x :: st) ce sl n sh I L R := by
  intro p e R0 s m args below meth c0 H locs ls hc hP hS hl
  have hts := hc.2.2.2.2.2.1
  have hK := hc.2.2.2.2.2.2.1.1
  have hR0 := hc.2.2.2.2.2.2.2.2.2.2.2
  subst hat
  have hx0 : ¬ x < 0 := by rw [ti_lt, ti_0]; omega
  have hxN : x.toNatClampNeg = N := by show x.toInt.toNat = N; omega
  refine va_newaK hc.1 hc.2.1 (hts _ hw) rfl hd rfl hx0 hxN hN (by omega) (by omega) rfl fun H1 cA e1 z1 o1 hAr hNm => ?_
  have hcA : cA = G.2.2.2.2 t := by
    have h1 := (hK.2 t _ hty).2
    have h2 : s.vm.findClass ("[" ++ (newarray.typeOf at').toString) = some (G.2.2.2.2 t) := by
      revert h1
      show va_RA _ _ (newarray.typeOf at') → _
      cases at' <;> exact fun h => h
    exact Option.some.inj (hNm.symm.trans h2)
  subst hcA
  have hk : ∀ (k : Nat) (y : Nat × va_E), (vwl G n sh I L R)[k]? = some y → H1[y.1]? = H[y.1]? := fun k y hy => o1 y.1 ((hP.2 k y hy).lt)
  have hP' := (hP.2.kept hk).app (w2 := [(ad G n, .inl (G.2.2.2.2 t, N, .inl (fun _ => 0)))]) (fun k y hy => by
    have hz : k < 1 := (List.getElem?_eq_some_iff.mp hy).1
    rw [show k = 0 by omega] at hy
    cases hy
    rw [← hP.1]
    show H1[H.size]? = some (vp_cell _ _)
    rw [e1, hdv, vp_cell_i])
  have hsn : sh' n = (13 + t, N) := by rw [hs']; simp [uph]
  have hcell : vcell G sh' I' L' R' n = .inl (G.2.2.2.2 t, N, .inl (fun _ => 0)) := by
    rcases (show t = 0 ∨ t = 1 by omega) with rfl | rfl
    · rw [vcell_i hsn, hI]; simp [uph]
    · rw [vcell_z hsn, hI]; simp [uph]
  rw [vwl_push (sh' := sh') (I' := I') (L' := L') (R' := R') hcell (fun j hj => by
    have hne : j ≠ n := by omega
    simp only [vcell, hs', hI, hL, hR, uph, hne, if_false])] at hP'
  have hS' : va_S (vA G) s.heap H1 locs := ⟨Nat.le_trans hS.1 (by omega), fun y h1 h2 => (o1 y (Nat.lt_of_lt_of_le h1 hS.1)).trans (hS.2.1 y h1 h2), hS.2.2⟩
  have e3 : H.size = ad G n := hP.1
  show W p G.1 e R0 s m args below meth c0 H1 locs (ce + 1) (sl + N) _ (F0 m (pc + 2) ls (.ref H.size :: st))
  rw [e3]
  exact kk p e R0 s m args below meth c0 H1 locs ls hc ⟨by rw [z1, hP.1, ad_s], hP'⟩ hS' hl
/-- a new array of references -/
theorem V_newq {t N idx : Nat} {C : String} {x : Int32} {sh' : vS} {I' : vI} {L' : vL} {R' : vR} (hty : (vty G)[t]? = some (G.2.2.2.2 t, .object C)) (ht : 2 ≤ t) (hw : Cond.classLink own idx C ∈ vT ∧ C ∈ vAOs) (hd : decode cc pc = .ok (.anewarray idx, 3)) (hx : x.toInt = N) (hN : N * 4 ≤ 536870912) (hce : ce + 1 ≤ MC) (hsl : sl + N ≤ MS)
    (hs' : sh' = uph sh n (13 + t, N)) (hI : I' = uph I n (fun _ => 0)) (hL : L' = uph L n (fun _ => 0)) (hR : R' = uph R n (fun _ => none))
    (kk : V G own cc ret ini d MC MS nL post (pc + 3) lo (.ref (ad G n) :: st) (ce + 1) (sl + N) (n + 1) sh' I' L' R') : V G own cc ret ini d MC MS nL post pc lo (.int x :: st) ce sl n sh I L R := by
  intro p e R0 s m args below meth c0 H locs ls hc hP hS hl
  have hts := hc.2.2.2.2.2.1
  have hK := hc.2.2.2.2.2.2.1.1
  have hR0 := hc.2.2.2.2.2.2.2.2.2.2.2
  have hx0 : ¬ x < 0 := by rw [ti_lt, ti_0]; omega
  have hxN : x.toNatClampNeg = N := by show x.toInt.toNat = N; omega
  subst hxN
  refine W.anew hc.1 hc.2.1 hc.2.2.2.2.1 (hts _ hw.1) (va_AO.use (hc.2.2.2.2.2.2.1.2.2.2.2 _ hw.2)) rfl hd rfl hx0 hN (by omega) (by omega) fun cA kA comp f1 f2 f3 f4 => ?_
  have hcA : cA = G.2.2.2.2 t := by
    obtain ⟨-, kA', comp', -, -, -, h5⟩ := hK.2 t _ hty
    exact Option.some.inj (f1.symm.trans h5)
  subst hcA
  generalize hH1 : H.push ({ cls := G.2.2.2.2 t, slots := Array.replicate x.toNatClampNeg .null, vm := .none } : Cell) = H1
  have z1 : H1.size = H.size + 1 := by rw [← hH1, Array.size_push]
  have e1 : H1[H.size]? = some (arrV (G.2.2.2.2 t) x.toNatClampNeg (fun _ => .null)) := by rw [← hH1, Array.getElem?_push_size, ← arrV_new]
  have o1 : ∀ q, q < H.size → H1[q]? = H[q]? := fun q hq => by rw [← hH1, Array.getElem?_push, if_neg (Nat.ne_of_lt hq)]
  have hk : ∀ (k : Nat) (y : Nat × va_E), (vwl G n sh I L R)[k]? = some y → H1[y.1]? = H[y.1]? := fun k y hy => o1 y.1 ((hP.2 k y hy).lt)
  have hP' := (hP.2.kept hk).app (w2 := [(ad G n, .inl (G.2.2.2.2 t, x.toNatClampNeg, .inr (.inr (.inr (.inr (fun _ => none))))))]) (fun k y hy => by
    have hz : k < 1 := (List.getElem?_eq_some_iff.mp hy).1
    rw [show k = 0 by omega] at hy
    cases hy
    rw [← hP.1]
    show H1[H.size]? = some (vp_cell _ _)
    rw [e1, vp_cell_q]; rfl)
  have hsn : sh' n = (13 + t, x.toNatClampNeg) := by rw [hs']; simp [uph]
  have hcell : vcell G sh' I' L' R' n = .inl (G.2.2.2.2 t, x.toNatClampNeg, .inr (.inr (.inr (.inr (fun _ => none))))) := by
    rw [vcell_r hsn ht, hR]; simp [uph, vrf]
  rw [vwl_push (sh' := sh') (I' := I') (L' := L') (R' := R') hcell (fun j hj => by
    have hne : j ≠ n := by omega
    simp only [vcell, hs', hI, hL, hR, uph, hne, if_false])] at hP'
  have hS' : va_S (vA G) s.heap H1 locs := ⟨Nat.le_trans hS.1 (by omega), fun y h1 h2 => (o1 y (Nat.lt_of_lt_of_le h1 hS.1)).trans (hS.2.1 y h1 h2), hS.2.2⟩
  have e3 : H.size = ad G n := hP.1
  rw [e3]
  exact kk p e R0 s m args below meth c0 H1 locs ls hc ⟨by rw [z1, hP.1, ad_s], hP'⟩ hS' hl
-- returns
theorem V_iret {v : Int32} {rt : FieldType} (hr : ret = some rt) (hn : narrow rt (.int v) = .int v) (hd : decode cc pc = .ok (.ireturn, 1)) (hce : ce ≤ MC) (hsl : sl ≤ MS) (hq : post (some (.int v)) n sh I L R) : V G own cc ret ini d MC MS nL post pc lo [.int v] ce sl n sh I L R := by
  intro p e R0 s m args below meth c0 H locs ls hc hP hS hl
  refine W.widen (k := MC) (n := MS) hce hsl ?_
  exact W.zret hc.1 hc.2.1 (by rw [hc.2.2.1, hr]) hn (fun t ht hW => ⟨⟨_, n, sh, I, L, R, rfl, hq, by rw [ht]; exact hP⟩, hS.F ht⟩) hS.2.2 hd hc.2.2.2.2.2.2.2.1
theorem V_lret {v : Int64} (hr : ret = some .long) (hd : decode cc pc = .ok (.lreturn, 1)) (hce : ce ≤ MC) (hsl : sl ≤ MS) (hq : post (some (.long v)) n sh I L R) : V G own cc ret ini d MC MS nL post pc lo [.long v] ce sl n sh I L R := by
  intro p e R0 s m args below meth c0 H locs ls hc hP hS hl
  refine W.widen (k := MC) (n := MS) hce hsl ?_
  exact W.lret hc.1 hc.2.1 (by rw [hc.2.2.1, hr]) (fun t ht hW => ⟨⟨_, n, sh, I, L, R, rfl, hq, by rw [ht]; exact hP⟩, hS.F ht⟩) hS.2.2 hd hc.2.2.2.2.2.2.2.1
theorem V_vret (hr : ret = none) (hd : decode cc pc = .ok (.return_, 1)) (hce : ce ≤ MC) (hsl : sl ≤ MS) (hq : post none n sh I L R) : V G own cc ret ini d MC MS nL post pc lo [] ce sl n sh I L R := by
  intro p e R0 s m args below meth c0 H locs ls hc hP hS hl
  refine W.widen (k := MC) (n := MS) hce hsl ?_
  exact W.vret hc.1 hc.2.1 (by rw [hc.2.2.1, hr]) (fun t ht hW => ⟨⟨_, n, sh, I, L, R, rfl, hq, by rw [ht]; exact hP⟩, hS.F ht⟩) hS.2.2 hd hc.2.2.2.2.2.2.2.1
theorem V_aret {v : Value} {C : String} (hr : ret = some (.object C)) (hv : v = .null ∨ ∃ a, v = .ref a) (hd : decode cc pc = .ok (.areturn, 1)) (hce : ce ≤ MC) (hsl : sl ≤ MS) (hq : post (some v) n sh I L R) : V G own cc ret ini d MC MS nL post pc lo [v] ce sl n sh I L R := by
  intro p e R0 s m args below meth c0 H locs ls hc hP hS hl
  refine W.widen (k := MC) (n := MS) hce hsl ?_
  exact W.aret hc.1 hc.2.1 (by rw [hc.2.2.1, hr]) (Or.inl ⟨_, rfl⟩) hv (fun t ht hW => ⟨⟨_, n, sh, I, L, R, rfl, hq, by rw [ht]; exact hP⟩, hS.F ht⟩) hS.2.2 hd hc.2.2.2.2.2.2.2.1
end VC
/-- a method's contract at these arguments and this world: it returns, and its answer and the world behind it are in 'post' -/
def CT (G : vG) (y : MethodName) (cc : ByteArray) (nL : Nat) (ret : Option FieldType) (d mc ms : Nat) (As : List Value) (n : Nat) (sh : vS) (I : vI) (L : vL) (R : vR) (post : PT) : Prop :=
  Met G.1 y (Cond.code y cc nL ret :: vT) { frames := d, cells := mc, slots := ms, locals := 40 * d } (va_Pc As (fun U => vRp G n sh I L R U.heap ∧ vK G U)) (QV G post) mc ms (vA G)
/-- what the tables say of a method -/
def MF (y : MethodName) (cc : ByteArray) (nL : Nat) (ret : Option FieldType) (k : Nat) : Prop := Cond.code y cc nL ret ∈ vT ∧ Cond.initialized y.cls ∈ vT ∧ (y.cls ≠ "java/lang/invoke/MethodHandle" ∧ y.cls ≠ "java/lang/invoke/VarHandle") ∧ (parseMethodDescriptor y.desc).map (fun d => d.parameters.length) = some k ∧ nL ≤ 20 ∧ plainName y.cls = true
theorem CT_of {G : vG} {own : String} {y : MethodName} {cc : ByteArray} {nL k : Nat} {ret : Option FieldType} {ini : Bool} {d mc ms : Nat} {As : List Value} {n : Nat} {sh : vS} {I : vI} {L : vL} {R : vR} {post : PT} {lo : List (Nat × Value)} (hF : MF y cc nL ret k) (hn : (lg_sl As).length ≤ nL) (hlo : lv_args 0 As = lo) (hini : ini = true → y.name = "<init>") (ho : y.cls = own) (h : V G own cc ret ini d mc ms nL post 0 lo [] 0 0 n sh I L R) : CT G y cc nL ret d mc ms As n sh I L R post := by
  subst ho
  refine Met.ofW (cc := cc) (maxL := nL) (ret := ret) hF.2.2.2.2.2 rfl ?_
  intro p e s m args below meth c s₁ B hml hv
  obtain ⟨rfl, hP, hK⟩ := hv
  have hl := lv_entry As hn
  rw [hlo] at hl
  rw [lg_entry_eq]
  have hts := atoms_spec (ws := Cond.code y cc nL ret :: vT) B.pre
  exact h p e _ s m As.toArray below meth c s.heap [] _ ⟨B.exec, B.bytes, B.returns, hml, findClass_of_methodNamed B.named, fun w hw => hts w (List.mem_cons_of_mem _ hw), hK, B.notSynchronized, fun hi => (name_of_methodNamed B.named B.method).1.trans (hini hi), Nat.le_refl _, Nat.le_refl _, Nat.le_refl _, Nat.le_refl _, by rw [hP.1]; exact Nat.le_add_right _ _⟩ hP va_S.rf hl
theorem CT_blind {G : vG} {As : List Value} {n : Nat} {sh : vS} {I : vI} {L : vL} {R : vR} : FrameBlind (va_Pc As (fun U => vRp G n sh I L R U.heap ∧ vK G U)) := fun a U g mk q => ⟨q.1, q.2.1, vK_same (s := U) (U := U.calling g mk a) rfl q.2.2⟩
theorem V_run {G : vG} {p : Program} {e : Env} {R0 : Room} {s : State} {m : MethodId} {args : Array Value} {below : List Frame} {meth : Method} {c : Code} {H : Heap} {locs : List Loc} {ce sl mc ms pc : Nat} {ls : Array Slot} {st0 rest : List Value} {ay : Array Value} {posty : PT} {Q : State → Prop}
    (hr : va_Run p G.1 e R0 s m args below meth c H locs ce sl mc ms (F0 m pc ls st0) rest (QV G posty ay) (vA G)) (hS : va_S (vA G) s.heap H locs)
    (kk : ∀ (r : Option Value) (n' : Nat) (sh' : vS) (I' : vI) (L' : vL) (R' : vR) (H1 : Heap) (locs1 : List Loc), posty r n' sh' I' L' R' → vRp G n' sh' I' L' R' H1 → va_S (vA G) s.heap H1 locs1 → W p G.1 e R0 s m args below meth c H1 locs1 (ce + mc) (sl + ms) Q (F0 m (pc + 3) ls (r.toList ++ rest))) : W p G.1 e R0 s m args below meth c H locs ce sl Q (F0 m pc ls st0) := by
  intro T hT X
  obtain ⟨v, st₀, t, T', L, h0, X', hL, e1, e2, ⟨⟨r, n', sh', I', L', R', hv, hp, hb⟩, hz, hk⟩, stp⟩ := hr T hT X
  cases hv
  rw [h0] at hz hk
  obtain ⟨t2, a1, b1⟩ := kk v n' sh' I' L' R' T'.heap (locs ++ L) hp (by rw [e1]; exact hb)
    ⟨Nat.le_trans hS.1 (by rw [e1]; exact hz), fun q h1 h2 => by rw [e1, hk q (Nat.lt_of_lt_of_le h1 hS.1) h2]; exact hS.2.1 q h1 h2, fun q hq => by
      rcases List.mem_append.mp hq with h | h
      · exact hS.2.2 q h
      · exact hL q h⟩ T' rfl X'
  exact ⟨t2, stp t2 a1, b1⟩
section VD
variable {G : vG} {own : String} {cc : ByteArray} {ret : Option FieldType} {ini : Bool} {d MC MS nL : Nat} {post : PT} {pc : Nat} {lo : List (Nat × Value)} {st st0 : List Value} {ce sl n : Nat} {sh : vS} {I : vI} {L : vL} {R : vR}
variable {y : MethodName} {ccy : ByteArray} {nLy k dy mc ms idx : Nat} {rety : Option FieldType} {As : List Value} {posty : PT}
theorem cb_of {R0 : Room} {s : State} {args : Array Value} (hF : MF y ccy nLy rety k) (hts : ∀ w ∈ vT, w.before args s = true) (hl : Cond.methodLink own idx y ∈ vT) (hfr : d ≤ R0.frames) (hlo : 40 * d ≤ R0.locals) (hdd : dy + 1 ≤ d) : CallB R0 s args own idx y ccy nLy rety (Cond.code y ccy nLy rety :: vT) { frames := dy, cells := mc, slots := ms, locals := 40 * dy } mc ms k :=
  callB_of k hts (tb_ws hF.1) rfl rfl rfl (hts _ hF.2.1) (hts _ hl) ⟨hF.2.2.1.1, hF.2.2.1.2, hF.2.2.2.1⟩ ⟨Nat.le_trans hdd hfr, by have := hF.2.2.2.2.1; show 8 + (nLy + 11) + 40 * dy ≤ R0.locals; omega⟩
theorem V_callS (hM : CT G y ccy nLy rety dy mc ms As n sh I L R posty) (hF : MF y ccy nLy rety k) (hl : Cond.methodLink own idx y ∈ vT) (hst : Cond.static y ∈ vT) (hd : decode cc pc = .ok (.invokestatic idx, 3)) (hk : As.length = k) (hstk : As.reverse ++ st = st0) (hdd : dy + 1 ≤ d) (hce : ce + mc ≤ MC) (hsl : sl + ms ≤ MS) (hW : (st.map fun v => v.category).sum ≤ 8)
    (kk : ∀ (r : Option Value) (n' : Nat) (sh' : vS) (I' : vI) (L' : vL) (R' : vR), posty r n' sh' I' L' R' → V G own cc ret ini d MC MS nL post (pc + 3) lo (r.toList ++ st) (ce + mc) (sl + ms) n' sh' I' L' R') : V G own cc ret ini d MC MS nL post pc lo st0 ce sl n sh I L R := by
  intro p e R0 s m args below meth c0 H locs ls hc hP hS hl2
  obtain ⟨h1, h2, h3, h4, h5, hts, hK, h8, h9, h10, h11, h12, h13, h14⟩ := id hc
  refine V_run (va_runS (As := As) (rest := st) ⟨h1, h2, h4, h5, hts⟩ hM ⟨cb_of hF hts hl h10 h11 hdd, hts _ hst⟩ ⟨CT_blind, fun U hU hW2 => ⟨rfl, by rw [hU]; exact hP, vK_warm hW2 hK⟩⟩ rfl hk hl2.1 hstk.symm (lv_room hW) hd ⟨by omega, by omega⟩) hS ?_
  intro r n' sh' I' L' R' H1 locs1 hq hP1 hS1
  exact kk r n' sh' I' L' R' hq p e R0 s m args below meth c0 H1 locs1 ls hc hP1 hS1 hl2
theorem vrecv {s : State} {H : Heap} {i c : Nat} {q : vw_C} (hK : va_K (G.2.2.1, G.2.2.2.1) vwCl (vty G) s) (hP : vRp G n sh I L R H) (hi : i < n) (hs : (sh i).1 = c) (hc : c < 13) (hcl : vwCl[c]? = some q) : ∃ cell : Cell, H[ad G i]? = some cell ∧ cell.vm.isStatics = false ∧ s.vm.findClass q.1 = some cell.cls := by
  have he := vwl_get (G := G) (sh := sh) (I := I) (L := L) (R := R) hi
  rw [vcell_o hs hc] at he
  exact va_recv hK hP.2 hcl he
theorem V_callV {i c : Nat} {q : vw_C} (hM : CT G y ccy nLy rety dy mc ms (.ref (ad G i) :: As) n sh I L R posty) (hF : MF y ccy nLy rety k) (hl : Cond.methodLink own idx y ∈ vT) (hin : Cond.instanceMethod y ∈ vT ∧ Cond.selects q.1 y y ∈ vT) (hi : i < n) (hs : (sh i).1 = c) (hc13 : c < 13) (hcl : vwCl[c]? = some q) (hd : decode cc pc = .ok (.invokevirtual idx, 3)) (hk : As.length = k) (hstk : As.reverse ++ .ref (ad G i) :: st = st0) (hdd : dy + 1 ≤ d) (hce : ce + mc ≤ MC) (hsl : sl + ms ≤ MS) (hW : (st.map fun v => v.category).sum ≤ 8)
    (kk : ∀ (r : Option Value) (n' : Nat) (sh' : vS) (I' : vI) (L' : vL) (R' : vR), posty r n' sh' I' L' R' → V G own cc ret ini d MC MS nL post (pc + 3) lo (r.toList ++ st) (ce + mc) (sl + ms) n' sh' I' L' R') : V G own cc ret ini d MC MS nL post pc lo st0 ce sl n sh I L R := by
  intro p e R0 s m args below meth c0 H locs ls hc hP hS hl2
  obtain ⟨h1, h2, h3, h4, h5, hts, hK, h8, h9, h10, h11, h12, h13, h14⟩ := id hc
  refine V_run (va_runV (C := q.1) (As := As) (rest := st) ⟨h1, h2, h4, h5, hts⟩ hM ⟨cb_of hF hts hl h10 h11 hdd, hts _ hin.1, hts _ hin.2⟩ ⟨CT_blind, vrecv hK.1 hP hi hs hc13 hcl, fun U hU hW2 => ⟨rfl, by rw [hU]; exact hP, vK_warm hW2 hK⟩⟩ rfl hk hl2.1 hstk.symm (lv_room hW) hd ⟨by omega, by omega⟩) hS ?_
  intro r n' sh' I' L' R' H1 locs1 hq hP1 hS1
  exact kk r n' sh' I' L' R' hq p e R0 s m args below meth c0 H1 locs1 ls hc hP1 hS1 hl2
theorem V_callVN {i c : Nat} {q : vw_C} {host : String} (hM : CT G y ccy nLy rety dy mc ms (.ref (ad G i) :: As) n sh I L R posty) (hF : MF y ccy nLy rety k) (hl : (own, idx, y, host) ∈ vNest) (hin : Cond.instanceMethod y ∈ vT ∧ Cond.selects q.1 y y ∈ vT) (hi : i < n) (hs : (sh i).1 = c) (hc13 : c < 13) (hcl : vwCl[c]? = some q) (hd : decode cc pc = .ok (.invokevirtual idx, 3)) (hk : As.length = k) (hstk : As.reverse ++ .ref (ad G i) :: st = st0) (hdd : dy + 1 ≤ d) (hce : ce + mc ≤ MC) (hsl : sl + ms ≤ MS) (hW : (st.map fun v => v.category).sum ≤ 8)
    (kk : ∀ (r : Option Value) (n' : Nat) (sh' : vS) (I' : vI) (L' : vL) (R' : vR), posty r n' sh' I' L' R' → V G own cc ret ini d MC MS nL post (pc + 3) lo (r.toList ++ st) (ce + mc) (sl + ms) n' sh' I' L' R') : V G own cc ret ini d MC MS nL post pc lo st0 ce sl n sh I L R := by
  intro p e R0 s m args below meth c0 H locs ls hc hP hS hl2
  obtain ⟨h1, h2, h3, h4, h5, hts, hK, h8, h9, h10, h11, h12, h13, h14⟩ := id hc
  refine V_run (va_runVN (C := q.1) (As := As) (rest := st) ⟨h1, h2, h4, h5, hts⟩ hM ⟨va_cnB k hts (tb_ws hF.1) rfl rfl rfl (hK.2.1 _ hl) (hts _ hF.2.1) ⟨hF.2.2.1.1, hF.2.2.1.2, hF.2.2.2.1⟩ ⟨Nat.le_trans hdd h10, by have := hF.2.2.2.2.1; show 8 + (nLy + 11) + 40 * dy ≤ R0.locals; omega⟩, hts _ hin.1, hts _ hin.2⟩ ⟨CT_blind, vrecv hK.1 hP hi hs hc13 hcl, fun U hU hW2 => ⟨rfl, by rw [hU]; exact hP, vK_warm hW2 hK⟩⟩ rfl hk hl2.1 hstk.symm (lv_room hW) hd ⟨by omega, by omega⟩) hS ?_
  intro r n' sh' I' L' R' H1 locs1 hq hP1 hS1
  exact kk r n' sh' I' L' R' hq p e R0 s m args below meth c0 H1 locs1 ls hc hP1 hS1 hl2
theorem V_callI {i : Nat} (hM : CT G y ccy nLy none dy mc ms (.ref (ad G i) :: As) n sh I L R posty) (hF : MF y ccy nLy none k) (hl : Cond.methodLink own idx y ∈ vT) (hin : y.name = "<init>" ∧ Cond.instanceMethod y ∈ vT) (hd : decode cc pc = .ok (.invokespecial idx, 3)) (hk : As.length = k) (hstk : As.reverse ++ .ref (ad G i) :: st = st0) (hdd : dy + 1 ≤ d) (hce : ce + mc ≤ MC) (hsl : sl + ms ≤ MS) (hW : (st.map fun v => v.category).sum ≤ 8)
    (kk : ∀ (r : Option Value) (n' : Nat) (sh' : vS) (I' : vI) (L' : vL) (R' : vR), posty r n' sh' I' L' R' → V G own cc ret ini d MC MS nL post (pc + 3) lo (r.toList ++ st) (ce + mc) (sl + ms) n' sh' I' L' R') : V G own cc ret ini d MC MS nL post pc lo st0 ce sl n sh I L R := by
  intro p e R0 s m args below meth c0 H locs ls hc hP hS hl2
  obtain ⟨h1, h2, h3, h4, h5, hts, hK, h8, h9, h10, h11, h12, h13, h14⟩ := id hc
  refine V_run (va_runI (As := As) (rest := st) ⟨h1, h2, h4, h5, hts⟩ hM ⟨cb_of hF hts hl h10 h11 hdd, hin.1, hts _ hin.2⟩ ⟨CT_blind, fun U hU hW2 => ⟨rfl, by rw [hU]; exact hP, vK_warm hW2 hK⟩⟩ rfl hk hl2.1 hstk.symm (lv_room hW) hd ⟨by omega, by omega⟩) hS ?_
  intro r n' sh' I' L' R' H1 locs1 hq hP1 hS1
  exact kk r n' sh' I' L' R' hq p e R0 s m args below meth c0 H1 locs1 ls hc hP1 hS1 hl2
theorem V_callIN {i : Nat} {host : String} (hM : CT G y ccy nLy none dy mc ms (.ref (ad G i) :: As) n sh I L R posty) (hF : MF y ccy nLy none k) (hl : (own, idx, y, host) ∈ vNest) (hin : y.name = "<init>" ∧ Cond.instanceMethod y ∈ vT) (hd : decode cc pc = .ok (.invokespecial idx, 3)) (hk : As.length = k) (hstk : As.reverse ++ .ref (ad G i) :: st = st0) (hdd : dy + 1 ≤ d) (hce : ce + mc ≤ MC) (hsl : sl + ms ≤ MS) (hW : (st.map fun v => v.category).sum ≤ 8)
    (kk : ∀ (r : Option Value) (n' : Nat) (sh' : vS) (I' : vI) (L' : vL) (R' : vR), posty r n' sh' I' L' R' → V G own cc ret ini d MC MS nL post (pc + 3) lo (r.toList ++ st) (ce + mc) (sl + ms) n' sh' I' L' R') : V G own cc ret ini d MC MS nL post pc lo st0 ce sl n sh I L R := by
  intro p e R0 s m args below meth c0 H locs ls hc hP hS hl2
  obtain ⟨h1, h2, h3, h4, h5, hts, hK, h8, h9, h10, h11, h12, h13, h14⟩ := id hc
  refine V_run (va_runIN (As := As) (rest := st) ⟨h1, h2, h4, h5, hts⟩ hM ⟨va_cnB k hts (tb_ws hF.1) rfl rfl rfl (hK.2.1 _ hl) (hts _ hF.2.1) ⟨hF.2.2.1.1, hF.2.2.1.2, hF.2.2.2.1⟩ ⟨Nat.le_trans hdd h10, by have := hF.2.2.2.2.1; show 8 + (nLy + 11) + 40 * dy ≤ R0.locals; omega⟩, hin.1, hts _ hin.2⟩ ⟨CT_blind, fun U hU hW2 => ⟨rfl, by rw [hU]; exact hP, vK_warm hW2 hK⟩⟩ rfl hk hl2.1 hstk.symm (lv_room hW) hd ⟨by omega, by omega⟩) hS ?_
  intro r n' sh' I' L' R' H1 locs1 hq hP1 hS1
  exact kk r n' sh' I' L' R' hq p e R0 s m args below meth c0 H1 locs1 ls hc hP1 hS1 hl2
theorem V_objInit {i idx : Nat} (hl : Cond.methodLink own idx Lib.objectInit ∈ vT) (hin : Cond.instanceMethod Lib.objectInit ∈ vT) (hco : Cond.code Lib.objectInit ⟨#[0xb1]⟩ 1 none ∈ vT) (hd : decode cc pc = .ok (.invokespecial idx, 3)) (hdd : 1 ≤ d) (hW : (st.map fun v => v.category).sum ≤ 8) (kk : V G own cc ret ini d MC MS nL post (pc + 3) lo st ce sl n sh I L R) : V G own cc ret ini d MC MS nL post pc lo (.ref (ad G i) :: st) ce sl n sh I L R := by
  intro p e R0 s m args below meth c0 H locs ls hc hP hS hl2
  obtain ⟨h1, h2, h3, h4, h5, hts, hK, h8, h9, h10, h11, h12, h13, h14⟩ := id hc
  refine W.objInit h1 h2 h5 (hts _ hl) (hts _ hin) (hts _ hco) rfl (by rw [h4]; exact hl2.1) rfl hd (Nat.le_trans hdd h10) ?_ (kk p e R0 s m args below meth c0 H locs ls hc hP hS hl2)
  show 2 * 0 + _ + 12 ≤ R0.locals
  omega
end VD
end
section
theorem tb1 {w : Cond} (i : Nat) (h : tables_1_1[i]? = some w) (hg : goodWord w = true) : w ∈ vT := List.mem_filter.mpr ⟨List.mem_append_right _ (show w ∈ tables_1 from List.mem_append_left _ (List.mem_of_getElem? h)), hg⟩
theorem tb2 {w : Cond} (i : Nat) (h : tables_1_2[i]? = some w) (hg : goodWord w = true) : w ∈ vT := List.mem_filter.mpr ⟨List.mem_append_right _ (show w ∈ tables_1 from List.mem_append_right _ (List.mem_append_left _ (List.mem_of_getElem? h))), hg⟩
theorem tb3 {w : Cond} (i : Nat) (h : tables_1_3[i]? = some w) (hg : goodWord w = true) : w ∈ vT := List.mem_filter.mpr ⟨List.mem_append_right _ (show w ∈ tables_1 from List.mem_append_right _ (List.mem_append_right _ (List.mem_append_left _ (List.mem_of_getElem? h)))), hg⟩
theorem tb4 {w : Cond} (i : Nat) (h : tables_1_4[i]? = some w) (hg : goodWord w = true) : w ∈ vT := List.mem_filter.mpr ⟨List.mem_append_right _ (show w ∈ tables_1 from List.mem_append_right _ (List.mem_append_right _ (List.mem_append_right _ (List.mem_append_left _ (List.mem_of_getElem? h))))), hg⟩
theorem tb5 {w : Cond} (i : Nat) (h : tables_1_5[i]? = some w) (hg : goodWord w = true) : w ∈ vT := List.mem_filter.mpr ⟨List.mem_append_right _ (show w ∈ tables_1 from List.mem_append_right _ (List.mem_append_right _ (List.mem_append_right _ (List.mem_append_right _ (List.mem_of_getElem? h))))), hg⟩
theorem tbp {w : Cond} (i : Nat) (h : (k2_sels lw_privs)[i]? = some w) (hg : goodWord w = true) : w ∈ vT := List.mem_filter.mpr ⟨List.mem_append_left _ (List.mem_of_getElem? h), hg⟩
theorem mf_X11_init : MF yX11_init cX11_init 2 (none) 0 := ⟨tb1 20 (by decide +kernel) (by decide +kernel), tb1 1 (by decide +kernel) (by decide +kernel), by decide +kernel, by decide +kernel, by decide, by decide +kernel⟩
theorem ii_X11_init : yX11_init.name = "<init>" ∧ Cond.instanceMethod yX11_init ∈ vT := ⟨rfl, tb1 19 (by decide +kernel) (by decide +kernel)⟩
theorem mf_X0_init : MF yX0_init cX0_init 1 (none) 0 := ⟨tb1 30 (by decide +kernel) (by decide +kernel), tb1 2 (by decide +kernel) (by decide +kernel), by decide +kernel, by decide +kernel, by decide, by decide +kernel⟩
theorem ii_X0_init : yX0_init.name = "<init>" ∧ Cond.instanceMethod yX0_init ∈ vT := ⟨rfl, tb1 29 (by decide +kernel) (by decide +kernel)⟩
theorem mf_X8_init : MF yX8_init cX8_init 1 (none) 0 := ⟨tb1 46 (by decide +kernel) (by decide +kernel), tb1 3 (by decide +kernel) (by decide +kernel), by decide +kernel, by decide +kernel, by decide, by decide +kernel⟩
theorem ii_X8_init : yX8_init.name = "<init>" ∧ Cond.instanceMethod yX8_init ∈ vT := ⟨rfl, tb1 45 (by decide +kernel) (by decide +kernel)⟩
theorem mf_X10_init : MF yX10_init cX10_init 1 (none) 0 := ⟨tb1 104 (by decide +kernel) (by decide +kernel), tb1 4 (by decide +kernel) (by decide +kernel), by decide +kernel, by decide +kernel, by decide, by decide +kernel⟩
theorem ii_X10_init : yX10_init.name = "<init>" ∧ Cond.instanceMethod yX10_init ∈ vT := ⟨rfl, tb1 103 (by decide +kernel) (by decide +kernel)⟩
theorem mf_X9_init : MF yX9_init cX9_init 1 (none) 0 := ⟨tb1 141 (by decide +kernel) (by decide +kernel), tb1 5 (by decide +kernel) (by decide +kernel), by decide +kernel, by decide +kernel, by decide, by decide +kernel⟩
theorem ii_X9_init : yX9_init.name = "<init>" ∧ Cond.instanceMethod yX9_init ∈ vT := ⟨rfl, tb1 140 (by decide +kernel) (by decide +kernel)⟩
theorem mf_X11_road : MF yX11_road cX11_road 5 (some .int) 4 := ⟨tb1 199 (by decide +kernel) (by decide +kernel), tb1 1 (by decide +kernel) (by decide +kernel), by decide +kernel, by decide +kernel, by decide, by decide +kernel⟩
theorem iv_X11_road : Cond.instanceMethod yX11_road ∈ vT ∧ Cond.selects yX11_road.cls yX11_road yX11_road ∈ vT := ⟨tb1 197 (by decide +kernel) (by decide +kernel), tb1 198 (by decide +kernel) (by decide +kernel)⟩
theorem mf_X11_isSpot : MF yX11_isSpot cX11_isSpot 1 (some .boolean) 1 := ⟨tb1 202 (by decide +kernel) (by decide +kernel), tb1 1 (by decide +kernel) (by decide +kernel), by decide +kernel, by decide +kernel, by decide, by decide +kernel⟩
theorem st_X11_isSpot : Cond.static yX11_isSpot ∈ vT := tb1 201 (by decide +kernel) (by decide +kernel)
theorem mf_X11_isWithin : MF yX11_isWithin cX11_isWithin 3 (some .boolean) 3 := ⟨tb1 205 (by decide +kernel) (by decide +kernel), tb1 1 (by decide +kernel) (by decide +kernel), by decide +kernel, by decide +kernel, by decide, by decide +kernel⟩
theorem st_X11_isWithin : Cond.static yX11_isWithin ∈ vT := tb1 204 (by decide +kernel) (by decide +kernel)
theorem mf_X11_newRoad : MF yX11_newRoad cX11_newRoad 4 (some (.object "RegularRally$Road")) 4 := ⟨tb1 208 (by decide +kernel) (by decide +kernel), tb1 1 (by decide +kernel) (by decide +kernel), by decide +kernel, by decide +kernel, by decide, by decide +kernel⟩
theorem st_X11_newRoad : Cond.static yX11_newRoad ∈ vT := tb1 207 (by decide +kernel) (by decide +kernel)
theorem mf_X6_init : MF yX6_init cX6_init 4 (none) 3 := ⟨tb1 213 (by decide +kernel) (by decide +kernel), tb1 8 (by decide +kernel) (by decide +kernel), by decide +kernel, by decide +kernel, by decide, by decide +kernel⟩
theorem ii_X6_init : yX6_init.name = "<init>" ∧ Cond.instanceMethod yX6_init ∈ vT := ⟨rfl, tb1 212 (by decide +kernel) (by decide +kernel)⟩
theorem mf_X7_init : MF yX7_init cX7_init 5 (none) 4 := ⟨tb1 216 (by decide +kernel) (by decide +kernel), tb1 7 (by decide +kernel) (by decide +kernel), by decide +kernel, by decide +kernel, by decide, by decide +kernel⟩
theorem ii_X7_init : yX7_init.name = "<init>" ∧ Cond.instanceMethod yX7_init ∈ vT := ⟨rfl, tb1 215 (by decide +kernel) (by decide +kernel)⟩
theorem mf_X3_init : MF yX3_init cX3_init 4 (none) 3 := ⟨tb2 6 (by decide +kernel) (by decide +kernel), tb1 9 (by decide +kernel) (by decide +kernel), by decide +kernel, by decide +kernel, by decide, by decide +kernel⟩
theorem ii_X3_init : yX3_init.name = "<init>" ∧ Cond.instanceMethod yX3_init ∈ vT := ⟨rfl, tb2 5 (by decide +kernel) (by decide +kernel)⟩
theorem mf_X11_shut : MF yX11_shut cX11_shut 4 (some .int) 2 := ⟨tb2 29 (by decide +kernel) (by decide +kernel), tb1 1 (by decide +kernel) (by decide +kernel), by decide +kernel, by decide +kernel, by decide, by decide +kernel⟩
theorem iv_X11_shut : Cond.instanceMethod yX11_shut ∈ vT ∧ Cond.selects yX11_shut.cls yX11_shut yX11_shut ∈ vT := ⟨tb2 27 (by decide +kernel) (by decide +kernel), tb2 28 (by decide +kernel) (by decide +kernel)⟩
theorem mf_X11_roadOf : MF yX11_roadOf cX11_roadOf 2 (some (.object "RegularRally$Road")) 1 := ⟨tb2 33 (by decide +kernel) (by decide +kernel), tb1 1 (by decide +kernel) (by decide +kernel), by decide +kernel, by decide +kernel, by decide, by decide +kernel⟩
theorem iv_X11_roadOf : Cond.instanceMethod yX11_roadOf ∈ vT ∧ Cond.selects yX11_roadOf.cls yX11_roadOf yX11_roadOf ∈ vT := ⟨tb2 32 (by decide +kernel) (by decide +kernel), tbp 0 (by decide +kernel) (by decide +kernel)⟩
theorem mf_X11_wet : MF yX11_wet cX11_wet 6 (some .int) 2 := ⟨tb2 37 (by decide +kernel) (by decide +kernel), tb1 1 (by decide +kernel) (by decide +kernel), by decide +kernel, by decide +kernel, by decide, by decide +kernel⟩
theorem iv_X11_wet : Cond.instanceMethod yX11_wet ∈ vT ∧ Cond.selects yX11_wet.cls yX11_wet yX11_wet ∈ vT := ⟨tb2 35 (by decide +kernel) (by decide +kernel), tb2 36 (by decide +kernel) (by decide +kernel)⟩
theorem mf_X11_answerOfFault : MF yX11_answerOfFault cX11_answerOfFault 2 (some .int) 1 := ⟨tb2 41 (by decide +kernel) (by decide +kernel), tb1 1 (by decide +kernel) (by decide +kernel), by decide +kernel, by decide +kernel, by decide, by decide +kernel⟩
theorem iv_X11_answerOfFault : Cond.instanceMethod yX11_answerOfFault ∈ vT ∧ Cond.selects yX11_answerOfFault.cls yX11_answerOfFault yX11_answerOfFault ∈ vT := ⟨tb2 40 (by decide +kernel) (by decide +kernel), tbp 1 (by decide +kernel) (by decide +kernel)⟩
theorem mf_X11_about : MF yX11_about cX11_about 4 (some .int) 2 := ⟨tb2 45 (by decide +kernel) (by decide +kernel), tb1 1 (by decide +kernel) (by decide +kernel), by decide +kernel, by decide +kernel, by decide, by decide +kernel⟩
theorem iv_X11_about : Cond.instanceMethod yX11_about ∈ vT ∧ Cond.selects yX11_about.cls yX11_about yX11_about ∈ vT := ⟨tb2 43 (by decide +kernel) (by decide +kernel), tb2 44 (by decide +kernel) (by decide +kernel)⟩
theorem mf_X3_isOpen : MF yX3_isOpen cX3_isOpen 1 (some .boolean) 0 := ⟨tb2 52 (by decide +kernel) (by decide +kernel), tb1 9 (by decide +kernel) (by decide +kernel), by decide +kernel, by decide +kernel, by decide, by decide +kernel⟩
theorem mf_X7_isOpen : MF yX7_isOpen cX7_isOpen 1 (some .boolean) 0 := ⟨tb2 55 (by decide +kernel) (by decide +kernel), tb1 7 (by decide +kernel) (by decide +kernel), by decide +kernel, by decide +kernel, by decide, by decide +kernel⟩
theorem iv_X7_isOpen : Cond.instanceMethod yX7_isOpen ∈ vT ∧ Cond.selects yX7_isOpen.cls yX7_isOpen yX7_isOpen ∈ vT := ⟨tb2 47 (by decide +kernel) (by decide +kernel), tb2 48 (by decide +kernel) (by decide +kernel)⟩
theorem mf_X10_placeOfRoad : MF yX10_placeOfRoad cX10_placeOfRoad 3 (some .int) 1 := ⟨tb2 59 (by decide +kernel) (by decide +kernel), tb1 4 (by decide +kernel) (by decide +kernel), by decide +kernel, by decide +kernel, by decide, by decide +kernel⟩
theorem iv_X10_placeOfRoad : Cond.instanceMethod yX10_placeOfRoad ∈ vT ∧ Cond.selects yX10_placeOfRoad.cls yX10_placeOfRoad yX10_placeOfRoad ∈ vT := ⟨tb2 57 (by decide +kernel) (by decide +kernel), tb2 58 (by decide +kernel) (by decide +kernel)⟩
theorem mf_X11_book : MF yX11_book cX11_book 7 (some .int) 4 := ⟨tb2 63 (by decide +kernel) (by decide +kernel), tb1 1 (by decide +kernel) (by decide +kernel), by decide +kernel, by decide +kernel, by decide, by decide +kernel⟩
theorem iv_X11_book : Cond.instanceMethod yX11_book ∈ vT ∧ Cond.selects yX11_book.cls yX11_book yX11_book ∈ vT := ⟨tb2 61 (by decide +kernel) (by decide +kernel), tb2 62 (by decide +kernel) (by decide +kernel)⟩
theorem mf_X11_sheetOf : MF yX11_sheetOf cX11_sheetOf 2 (some (.object "RegularRally$Sheet")) 1 := ⟨tb2 67 (by decide +kernel) (by decide +kernel), tb1 1 (by decide +kernel) (by decide +kernel), by decide +kernel, by decide +kernel, by decide, by decide +kernel⟩
theorem iv_X11_sheetOf : Cond.instanceMethod yX11_sheetOf ∈ vT ∧ Cond.selects yX11_sheetOf.cls yX11_sheetOf yX11_sheetOf ∈ vT := ⟨tb2 66 (by decide +kernel) (by decide +kernel), tbp 2 (by decide +kernel) (by decide +kernel)⟩
theorem mf_X11_isLane : MF yX11_isLane cX11_isLane 1 (some .boolean) 1 := ⟨tb2 70 (by decide +kernel) (by decide +kernel), tb1 1 (by decide +kernel) (by decide +kernel), by decide +kernel, by decide +kernel, by decide, by decide +kernel⟩
theorem st_X11_isLane : Cond.static yX11_isLane ∈ vT := tb2 69 (by decide +kernel) (by decide +kernel)
theorem mf_X9_faultOfCells : MF yX9_faultOfCells cX9_faultOfCells 4 (some .int) 3 := ⟨tb2 74 (by decide +kernel) (by decide +kernel), tb1 5 (by decide +kernel) (by decide +kernel), by decide +kernel, by decide +kernel, by decide, by decide +kernel⟩
theorem iv_X9_faultOfCells : Cond.instanceMethod yX9_faultOfCells ∈ vT ∧ Cond.selects yX9_faultOfCells.cls yX9_faultOfCells yX9_faultOfCells ∈ vT := ⟨tb2 72 (by decide +kernel) (by decide +kernel), tb2 73 (by decide +kernel) (by decide +kernel)⟩
theorem mf_X9_holds : MF yX9_holds cX9_holds 3 (some .boolean) 2 := ⟨tb2 78 (by decide +kernel) (by decide +kernel), tb1 5 (by decide +kernel) (by decide +kernel), by decide +kernel, by decide +kernel, by decide, by decide +kernel⟩
theorem iv_X9_holds : Cond.instanceMethod yX9_holds ∈ vT ∧ Cond.selects yX9_holds.cls yX9_holds yX9_holds ∈ vT := ⟨tb2 76 (by decide +kernel) (by decide +kernel), tb2 77 (by decide +kernel) (by decide +kernel)⟩
theorem mf_X11_areBookSpots : MF yX11_areBookSpots cX11_areBookSpots 4 (some .boolean) 3 := ⟨tb2 81 (by decide +kernel) (by decide +kernel), tb1 1 (by decide +kernel) (by decide +kernel), by decide +kernel, by decide +kernel, by decide, by decide +kernel⟩
theorem st_X11_areBookSpots : Cond.static yX11_areBookSpots ∈ vT := tb2 80 (by decide +kernel) (by decide +kernel)
theorem mf_X0_become : MF yX0_become cX0_become 5 (none) 3 := ⟨tb2 85 (by decide +kernel) (by decide +kernel), tb1 2 (by decide +kernel) (by decide +kernel), by decide +kernel, by decide +kernel, by decide, by decide +kernel⟩
theorem iv_X0_become : Cond.instanceMethod yX0_become ∈ vT ∧ Cond.selects yX0_become.cls yX0_become yX0_become ∈ vT := ⟨tb2 83 (by decide +kernel) (by decide +kernel), tb2 84 (by decide +kernel) (by decide +kernel)⟩
theorem mf_X11_ways : MF yX11_ways cX11_ways 1 (some .int) 0 := ⟨tb2 89 (by decide +kernel) (by decide +kernel), tb1 1 (by decide +kernel) (by decide +kernel), by decide +kernel, by decide +kernel, by decide, by decide +kernel⟩
theorem iv_X11_ways : Cond.instanceMethod yX11_ways ∈ vT ∧ Cond.selects yX11_ways.cls yX11_ways yX11_ways ∈ vT := ⟨tb2 87 (by decide +kernel) (by decide +kernel), tb2 88 (by decide +kernel) (by decide +kernel)⟩
theorem mf_X11_searchTheMap : MF yX11_searchTheMap cX11_searchTheMap 1 (none) 0 := ⟨tb2 93 (by decide +kernel) (by decide +kernel), tb1 1 (by decide +kernel) (by decide +kernel), by decide +kernel, by decide +kernel, by decide, by decide +kernel⟩
theorem iv_X11_searchTheMap : Cond.instanceMethod yX11_searchTheMap ∈ vT ∧ Cond.selects yX11_searchTheMap.cls yX11_searchTheMap yX11_searchTheMap ∈ vT := ⟨tb2 92 (by decide +kernel) (by decide +kernel), tbp 3 (by decide +kernel) (by decide +kernel)⟩
theorem mf_X8_begin : MF yX8_begin cX8_begin 6 (none) 3 := ⟨tb2 97 (by decide +kernel) (by decide +kernel), tb1 3 (by decide +kernel) (by decide +kernel), by decide +kernel, by decide +kernel, by decide, by decide +kernel⟩
theorem iv_X8_begin : Cond.instanceMethod yX8_begin ∈ vT ∧ Cond.selects yX8_begin.cls yX8_begin yX8_begin ∈ vT := ⟨tb2 95 (by decide +kernel) (by decide +kernel), tb2 96 (by decide +kernel) (by decide +kernel)⟩
theorem mf_X8_addExit : MF yX8_addExit cX8_addExit 6 (none) 3 := ⟨tb2 101 (by decide +kernel) (by decide +kernel), tb1 3 (by decide +kernel) (by decide +kernel), by decide +kernel, by decide +kernel, by decide, by decide +kernel⟩
theorem iv_X8_addExit : Cond.instanceMethod yX8_addExit ∈ vT ∧ Cond.selects yX8_addExit.cls yX8_addExit yX8_addExit ∈ vT := ⟨tb2 100 (by decide +kernel) (by decide +kernel), tbp 4 (by decide +kernel) (by decide +kernel)⟩
theorem mf_X6_endFrom : MF yX6_endFrom cX6_endFrom 2 (some .int) 1 := ⟨tb2 109 (by decide +kernel) (by decide +kernel), tb1 8 (by decide +kernel) (by decide +kernel), by decide +kernel, by decide +kernel, by decide, by decide +kernel⟩
theorem mf_X7_endFrom : MF yX7_endFrom cX7_endFrom 2 (some .int) 1 := ⟨tb2 111 (by decide +kernel) (by decide +kernel), tb1 7 (by decide +kernel) (by decide +kernel), by decide +kernel, by decide +kernel, by decide, by decide +kernel⟩
theorem iv_X7_endFrom : Cond.instanceMethod yX7_endFrom ∈ vT ∧ Cond.selects yX7_endFrom.cls yX7_endFrom yX7_endFrom ∈ vT := ⟨tb2 103 (by decide +kernel) (by decide +kernel), tb2 104 (by decide +kernel) (by decide +kernel)⟩
theorem mf_X11_goOn : MF yX11_goOn cX11_goOn 11 (none) 5 := ⟨tb2 115 (by decide +kernel) (by decide +kernel), tb1 1 (by decide +kernel) (by decide +kernel), by decide +kernel, by decide +kernel, by decide, by decide +kernel⟩
theorem st_X11_goOn : Cond.static yX11_goOn ∈ vT := tb2 114 (by decide +kernel) (by decide +kernel)
theorem mf_X8_isInRow : MF yX8_isInRow cX8_isInRow 2 (some .boolean) 1 := ⟨tb2 119 (by decide +kernel) (by decide +kernel), tb1 3 (by decide +kernel) (by decide +kernel), by decide +kernel, by decide +kernel, by decide, by decide +kernel⟩
theorem iv_X8_isInRow : Cond.instanceMethod yX8_isInRow ∈ vT ∧ Cond.selects yX8_isInRow.cls yX8_isInRow yX8_isInRow ∈ vT := ⟨tb2 117 (by decide +kernel) (by decide +kernel), tb2 118 (by decide +kernel) (by decide +kernel)⟩
theorem mf_X8_isTooLong : MF yX8_isTooLong cX8_isTooLong 2 (some .boolean) 1 := ⟨tb2 123 (by decide +kernel) (by decide +kernel), tb1 3 (by decide +kernel) (by decide +kernel), by decide +kernel, by decide +kernel, by decide, by decide +kernel⟩
theorem iv_X8_isTooLong : Cond.instanceMethod yX8_isTooLong ∈ vT ∧ Cond.selects yX8_isTooLong.cls yX8_isTooLong yX8_isTooLong ∈ vT := ⟨tb2 121 (by decide +kernel) (by decide +kernel), tb2 122 (by decide +kernel) (by decide +kernel)⟩
theorem mf_X0_metAfter : MF yX0_metAfter cX0_metAfter 3 (some .int) 2 := ⟨tb2 128 (by decide +kernel) (by decide +kernel), tb1 2 (by decide +kernel) (by decide +kernel), by decide +kernel, by decide +kernel, by decide, by decide +kernel⟩
theorem iv_X0_metAfter : Cond.instanceMethod yX0_metAfter ∈ vT ∧ Cond.selects yX0_metAfter.cls yX0_metAfter yX0_metAfter ∈ vT := ⟨tb2 126 (by decide +kernel) (by decide +kernel), tb2 127 (by decide +kernel) (by decide +kernel)⟩
theorem mf_X0_isPassed : MF yX0_isPassed cX0_isPassed 3 (some .boolean) 2 := ⟨tb2 132 (by decide +kernel) (by decide +kernel), tb1 2 (by decide +kernel) (by decide +kernel), by decide +kernel, by decide +kernel, by decide, by decide +kernel⟩
theorem iv_X0_isPassed : Cond.instanceMethod yX0_isPassed ∈ vT ∧ Cond.selects yX0_isPassed.cls yX0_isPassed yX0_isPassed ∈ vT := ⟨tb2 130 (by decide +kernel) (by decide +kernel), tb2 131 (by decide +kernel) (by decide +kernel)⟩
theorem mf_X8_found : MF yX8_found cX8_found 4 (none) 2 := ⟨tb2 136 (by decide +kernel) (by decide +kernel), tb1 3 (by decide +kernel) (by decide +kernel), by decide +kernel, by decide +kernel, by decide, by decide +kernel⟩
theorem iv_X8_found : Cond.instanceMethod yX8_found ∈ vT ∧ Cond.selects yX8_found.cls yX8_found yX8_found ∈ vT := ⟨tb2 134 (by decide +kernel) (by decide +kernel), tb2 135 (by decide +kernel) (by decide +kernel)⟩
theorem mf_X11_lay : MF yX11_lay cX11_lay 1 (some .int) 0 := ⟨tb2 140 (by decide +kernel) (by decide +kernel), tb1 1 (by decide +kernel) (by decide +kernel), by decide +kernel, by decide +kernel, by decide, by decide +kernel⟩
theorem iv_X11_lay : Cond.instanceMethod yX11_lay ∈ vT ∧ Cond.selects yX11_lay.cls yX11_lay yX11_lay ∈ vT := ⟨tb2 138 (by decide +kernel) (by decide +kernel), tb2 139 (by decide +kernel) (by decide +kernel)⟩
theorem mf_X11_layTheBest : MF yX11_layTheBest cX11_layTheBest 3 (none) 0 := ⟨tb2 144 (by decide +kernel) (by decide +kernel), tb1 1 (by decide +kernel) (by decide +kernel), by decide +kernel, by decide +kernel, by decide, by decide +kernel⟩
theorem iv_X11_layTheBest : Cond.instanceMethod yX11_layTheBest ∈ vT ∧ Cond.selects yX11_layTheBest.cls yX11_layTheBest yX11_layTheBest ∈ vT := ⟨tb2 143 (by decide +kernel) (by decide +kernel), tbp 5 (by decide +kernel) (by decide +kernel)⟩
theorem mf_X10_begin : MF yX10_begin cX10_begin 1 (none) 0 := ⟨tb2 148 (by decide +kernel) (by decide +kernel), tb1 4 (by decide +kernel) (by decide +kernel), by decide +kernel, by decide +kernel, by decide, by decide +kernel⟩
theorem iv_X10_begin : Cond.instanceMethod yX10_begin ∈ vT ∧ Cond.selects yX10_begin.cls yX10_begin yX10_begin ∈ vT := ⟨tb2 146 (by decide +kernel) (by decide +kernel), tb2 147 (by decide +kernel) (by decide +kernel)⟩
theorem mf_X10_addRoad : MF yX10_addRoad cX10_addRoad 3 (none) 2 := ⟨tb2 152 (by decide +kernel) (by decide +kernel), tb1 4 (by decide +kernel) (by decide +kernel), by decide +kernel, by decide +kernel, by decide, by decide +kernel⟩
theorem iv_X10_addRoad : Cond.instanceMethod yX10_addRoad ∈ vT ∧ Cond.selects yX10_addRoad.cls yX10_addRoad yX10_addRoad ∈ vT := ⟨tb2 150 (by decide +kernel) (by decide +kernel), tb2 151 (by decide +kernel) (by decide +kernel)⟩
theorem mf_X1_forgetTheWay : MF yX1_forgetTheWay cX1_forgetTheWay 2 (none) 0 := ⟨tb2 159 (by decide +kernel) (by decide +kernel), tb1 11 (by decide +kernel) (by decide +kernel), by decide +kernel, by decide +kernel, by decide, by decide +kernel⟩
theorem iv_X1_forgetTheWay : Cond.instanceMethod yX1_forgetTheWay ∈ vT ∧ Cond.selects yX1_forgetTheWay.cls yX1_forgetTheWay yX1_forgetTheWay ∈ vT := ⟨tb2 154 (by decide +kernel) (by decide +kernel), tb2 155 (by decide +kernel) (by decide +kernel)⟩
theorem mf_X11_laid : MF yX11_laid cX11_laid 2 (some .int) 1 := ⟨tb2 163 (by decide +kernel) (by decide +kernel), tb1 1 (by decide +kernel) (by decide +kernel), by decide +kernel, by decide +kernel, by decide, by decide +kernel⟩
theorem iv_X11_laid : Cond.instanceMethod yX11_laid ∈ vT ∧ Cond.selects yX11_laid.cls yX11_laid yX11_laid ∈ vT := ⟨tb2 161 (by decide +kernel) (by decide +kernel), tb2 162 (by decide +kernel) (by decide +kernel)⟩
theorem mf_X11_proof : MF yX11_proof cX11_proof 7 (some .long) 4 := ⟨tb2 167 (by decide +kernel) (by decide +kernel), tb1 1 (by decide +kernel) (by decide +kernel), by decide +kernel, by decide +kernel, by decide, by decide +kernel⟩
theorem iv_X11_proof : Cond.instanceMethod yX11_proof ∈ vT ∧ Cond.selects yX11_proof.cls yX11_proof yX11_proof ∈ vT := ⟨tb2 165 (by decide +kernel) (by decide +kernel), tb2 166 (by decide +kernel) (by decide +kernel)⟩
theorem mf_X11_lostByFault : MF yX11_lostByFault cX11_lostByFault 2 (some .long) 1 := ⟨tb2 172 (by decide +kernel) (by decide +kernel), tb1 1 (by decide +kernel) (by decide +kernel), by decide +kernel, by decide +kernel, by decide, by decide +kernel⟩
theorem iv_X11_lostByFault : Cond.instanceMethod yX11_lostByFault ∈ vT ∧ Cond.selects yX11_lostByFault.cls yX11_lostByFault yX11_lostByFault ∈ vT := ⟨tb2 171 (by decide +kernel) (by decide +kernel), tbp 6 (by decide +kernel) (by decide +kernel)⟩
theorem mf_X11_proofOfRow : MF yX11_proofOfRow cX11_proofOfRow 13 (some .long) 3 := ⟨tb2 176 (by decide +kernel) (by decide +kernel), tb1 1 (by decide +kernel) (by decide +kernel), by decide +kernel, by decide +kernel, by decide, by decide +kernel⟩
theorem iv_X11_proofOfRow : Cond.instanceMethod yX11_proofOfRow ∈ vT ∧ Cond.selects yX11_proofOfRow.cls yX11_proofOfRow yX11_proofOfRow ∈ vT := ⟨tb2 175 (by decide +kernel) (by decide +kernel), tbp 7 (by decide +kernel) (by decide +kernel)⟩
theorem mf_X11_speed : MF yX11_speed cX11_speed 3 (some .int) 2 := ⟨tb2 182 (by decide +kernel) (by decide +kernel), tb1 1 (by decide +kernel) (by decide +kernel), by decide +kernel, by decide +kernel, by decide, by decide +kernel⟩
theorem iv_X11_speed : Cond.instanceMethod yX11_speed ∈ vT ∧ Cond.selects yX11_speed.cls yX11_speed yX11_speed ∈ vT := ⟨tb2 180 (by decide +kernel) (by decide +kernel), tb2 181 (by decide +kernel) (by decide +kernel)⟩
theorem mf_X10_addSpeed : MF yX10_addSpeed cX10_addSpeed 3 (none) 2 := ⟨tb2 186 (by decide +kernel) (by decide +kernel), tb1 4 (by decide +kernel) (by decide +kernel), by decide +kernel, by decide +kernel, by decide, by decide +kernel⟩
theorem iv_X10_addSpeed : Cond.instanceMethod yX10_addSpeed ∈ vT ∧ Cond.selects yX10_addSpeed.cls yX10_addSpeed yX10_addSpeed ∈ vT := ⟨tb2 184 (by decide +kernel) (by decide +kernel), tb2 185 (by decide +kernel) (by decide +kernel)⟩
theorem mf_X11_due : MF yX11_due cX11_due 2 (some .long) 1 := ⟨tb2 190 (by decide +kernel) (by decide +kernel), tb1 1 (by decide +kernel) (by decide +kernel), by decide +kernel, by decide +kernel, by decide, by decide +kernel⟩
theorem iv_X11_due : Cond.instanceMethod yX11_due ∈ vT ∧ Cond.selects yX11_due.cls yX11_due yX11_due ∈ vT := ⟨tb2 188 (by decide +kernel) (by decide +kernel), tb2 189 (by decide +kernel) (by decide +kernel)⟩
theorem mf_X10_hasFirstSpeed : MF yX10_hasFirstSpeed cX10_hasFirstSpeed 1 (some .boolean) 0 := ⟨tb2 194 (by decide +kernel) (by decide +kernel), tb1 4 (by decide +kernel) (by decide +kernel), by decide +kernel, by decide +kernel, by decide, by decide +kernel⟩
theorem iv_X10_hasFirstSpeed : Cond.instanceMethod yX10_hasFirstSpeed ∈ vT ∧ Cond.selects yX10_hasFirstSpeed.cls yX10_hasFirstSpeed yX10_hasFirstSpeed ∈ vT := ⟨tb2 192 (by decide +kernel) (by decide +kernel), tb2 193 (by decide +kernel) (by decide +kernel)⟩
theorem mf_X10_speedFrom : MF yX10_speedFrom cX10_speedFrom 4 (some .int) 1 := ⟨tb2 198 (by decide +kernel) (by decide +kernel), tb1 4 (by decide +kernel) (by decide +kernel), by decide +kernel, by decide +kernel, by decide, by decide +kernel⟩
theorem iv_X10_speedFrom : Cond.instanceMethod yX10_speedFrom ∈ vT ∧ Cond.selects yX10_speedFrom.cls yX10_speedFrom yX10_speedFrom ∈ vT := ⟨tb2 197 (by decide +kernel) (by decide +kernel), tbp 8 (by decide +kernel) (by decide +kernel)⟩
theorem mf_X10_dueAt : MF yX10_dueAt cX10_dueAt 8 (some .long) 1 := ⟨tb2 202 (by decide +kernel) (by decide +kernel), tb1 4 (by decide +kernel) (by decide +kernel), by decide +kernel, by decide +kernel, by decide, by decide +kernel⟩
theorem iv_X10_dueAt : Cond.instanceMethod yX10_dueAt ∈ vT ∧ Cond.selects yX10_dueAt.cls yX10_dueAt yX10_dueAt ∈ vT := ⟨tb2 200 (by decide +kernel) (by decide +kernel), tb2 201 (by decide +kernel) (by decide +kernel)⟩
theorem mf_X10_endOfStretch : MF yX10_endOfStretch cX10_endOfStretch 5 (some .int) 2 := ⟨tb2 206 (by decide +kernel) (by decide +kernel), tb1 4 (by decide +kernel) (by decide +kernel), by decide +kernel, by decide +kernel, by decide, by decide +kernel⟩
theorem iv_X10_endOfStretch : Cond.instanceMethod yX10_endOfStretch ∈ vT ∧ Cond.selects yX10_endOfStretch.cls yX10_endOfStretch yX10_endOfStretch ∈ vT := ⟨tb2 205 (by decide +kernel) (by decide +kernel), tbp 9 (by decide +kernel) (by decide +kernel)⟩
theorem mf_X11_roadAt : MF yX11_roadAt cX11_roadAt 2 (some .int) 1 := ⟨tb2 211 (by decide +kernel) (by decide +kernel), tb1 1 (by decide +kernel) (by decide +kernel), by decide +kernel, by decide +kernel, by decide, by decide +kernel⟩
theorem iv_X11_roadAt : Cond.instanceMethod yX11_roadAt ∈ vT ∧ Cond.selects yX11_roadAt.cls yX11_roadAt yX11_roadAt ∈ vT := ⟨tb2 209 (by decide +kernel) (by decide +kernel), tb2 210 (by decide +kernel) (by decide +kernel)⟩
theorem mf_X10_roadUnder : MF yX10_roadUnder cX10_roadUnder 3 (some .int) 1 := ⟨tb2 215 (by decide +kernel) (by decide +kernel), tb1 4 (by decide +kernel) (by decide +kernel), by decide +kernel, by decide +kernel, by decide, by decide +kernel⟩
theorem iv_X10_roadUnder : Cond.instanceMethod yX10_roadUnder ∈ vT ∧ Cond.selects yX10_roadUnder.cls yX10_roadUnder yX10_roadUnder ∈ vT := ⟨tb2 213 (by decide +kernel) (by decide +kernel), tb2 214 (by decide +kernel) (by decide +kernel)⟩
theorem mf_X11_control : MF yX11_control cX11_control 2 (some .int) 1 := ⟨tb2 219 (by decide +kernel) (by decide +kernel), tb1 1 (by decide +kernel) (by decide +kernel), by decide +kernel, by decide +kernel, by decide, by decide +kernel⟩
theorem iv_X11_control : Cond.instanceMethod yX11_control ∈ vT ∧ Cond.selects yX11_control.cls yX11_control yX11_control ∈ vT := ⟨tb2 217 (by decide +kernel) (by decide +kernel), tb2 218 (by decide +kernel) (by decide +kernel)⟩
theorem mf_X11_isControlAt : MF yX11_isControlAt cX11_isControlAt 3 (some .boolean) 1 := ⟨tb2 223 (by decide +kernel) (by decide +kernel), tb1 1 (by decide +kernel) (by decide +kernel), by decide +kernel, by decide +kernel, by decide, by decide +kernel⟩
theorem iv_X11_isControlAt : Cond.instanceMethod yX11_isControlAt ∈ vT ∧ Cond.selects yX11_isControlAt.cls yX11_isControlAt yX11_isControlAt ∈ vT := ⟨tb2 222 (by decide +kernel) (by decide +kernel), tbp 10 (by decide +kernel) (by decide +kernel)⟩
theorem mf_X2_init : MF yX2_init cX2_init 2 (none) 1 := ⟨tb2 227 (by decide +kernel) (by decide +kernel), tb1 10 (by decide +kernel) (by decide +kernel), by decide +kernel, by decide +kernel, by decide, by decide +kernel⟩
theorem ii_X2_init : yX2_init.name = "<init>" ∧ Cond.instanceMethod yX2_init ∈ vT := ⟨rfl, tb2 226 (by decide +kernel) (by decide +kernel)⟩
theorem mf_X11_watch : MF yX11_watch cX11_watch 7 (some .int) 5 := ⟨tb3 12 (by decide +kernel) (by decide +kernel), tb1 1 (by decide +kernel) (by decide +kernel), by decide +kernel, by decide +kernel, by decide, by decide +kernel⟩
theorem iv_X11_watch : Cond.instanceMethod yX11_watch ∈ vT ∧ Cond.selects yX11_watch.cls yX11_watch yX11_watch ∈ vT := ⟨tb3 10 (by decide +kernel) (by decide +kernel), tb3 11 (by decide +kernel) (by decide +kernel)⟩
theorem mf_X11_controlOf : MF yX11_controlOf cX11_controlOf 2 (some (.object "RegularRally$Control")) 1 := ⟨tb3 16 (by decide +kernel) (by decide +kernel), tb1 1 (by decide +kernel) (by decide +kernel), by decide +kernel, by decide +kernel, by decide, by decide +kernel⟩
theorem iv_X11_controlOf : Cond.instanceMethod yX11_controlOf ∈ vT ∧ Cond.selects yX11_controlOf.cls yX11_controlOf yX11_controlOf ∈ vT := ⟨tb3 15 (by decide +kernel) (by decide +kernel), tbp 11 (by decide +kernel) (by decide +kernel)⟩
theorem mf_X11_isSpanOfTime : MF yX11_isSpanOfTime cX11_isSpanOfTime 2 (some .boolean) 2 := ⟨tb3 19 (by decide +kernel) (by decide +kernel), tb1 1 (by decide +kernel) (by decide +kernel), by decide +kernel, by decide +kernel, by decide, by decide +kernel⟩
theorem st_X11_isSpanOfTime : Cond.static yX11_isSpanOfTime ∈ vT := tb3 18 (by decide +kernel) (by decide +kernel)
theorem mf_X11_isTime : MF yX11_isTime cX11_isTime 1 (some .boolean) 1 := ⟨tb3 22 (by decide +kernel) (by decide +kernel), tb1 1 (by decide +kernel) (by decide +kernel), by decide +kernel, by decide +kernel, by decide, by decide +kernel⟩
theorem st_X11_isTime : Cond.static yX11_isTime ∈ vT := tb3 21 (by decide +kernel) (by decide +kernel)
theorem mf_X2_check : MF yX2_check cX2_check 5 (none) 4 := ⟨tb3 27 (by decide +kernel) (by decide +kernel), tb1 10 (by decide +kernel) (by decide +kernel), by decide +kernel, by decide +kernel, by decide, by decide +kernel⟩
theorem iv_X2_check : Cond.instanceMethod yX2_check ∈ vT ∧ Cond.selects yX2_check.cls yX2_check yX2_check ∈ vT := ⟨tb3 25 (by decide +kernel) (by decide +kernel), tb3 26 (by decide +kernel) (by decide +kernel)⟩
theorem mf_X11_right : MF yX11_right cX11_right 4 (some .long) 2 := ⟨tb3 31 (by decide +kernel) (by decide +kernel), tb1 1 (by decide +kernel) (by decide +kernel), by decide +kernel, by decide +kernel, by decide, by decide +kernel⟩
theorem iv_X11_right : Cond.instanceMethod yX11_right ∈ vT ∧ Cond.selects yX11_right.cls yX11_right yX11_right ∈ vT := ⟨tb3 29 (by decide +kernel) (by decide +kernel), tb3 30 (by decide +kernel) (by decide +kernel)⟩
theorem mf_X2_putRight : MF yX2_putRight cX2_putRight 2 (some .long) 1 := ⟨tb3 35 (by decide +kernel) (by decide +kernel), tb1 10 (by decide +kernel) (by decide +kernel), by decide +kernel, by decide +kernel, by decide, by decide +kernel⟩
theorem iv_X2_putRight : Cond.instanceMethod yX2_putRight ∈ vT ∧ Cond.selects yX2_putRight.cls yX2_putRight yX2_putRight ∈ vT := ⟨tb3 33 (by decide +kernel) (by decide +kernel), tb3 34 (by decide +kernel) (by decide +kernel)⟩
theorem mf_X11_strike : MF yX11_strike cX11_strike 4 (some .int) 2 := ⟨tb3 39 (by decide +kernel) (by decide +kernel), tb1 1 (by decide +kernel) (by decide +kernel), by decide +kernel, by decide +kernel, by decide, by decide +kernel⟩
theorem iv_X11_strike : Cond.instanceMethod yX11_strike ∈ vT ∧ Cond.selects yX11_strike.cls yX11_strike yX11_strike ∈ vT := ⟨tb3 37 (by decide +kernel) (by decide +kernel), tb3 38 (by decide +kernel) (by decide +kernel)⟩
theorem mf_X11_car : MF yX11_car cX11_car 3 (some .int) 2 := ⟨tb3 43 (by decide +kernel) (by decide +kernel), tb1 1 (by decide +kernel) (by decide +kernel), by decide +kernel, by decide +kernel, by decide, by decide +kernel⟩
theorem iv_X11_car : Cond.instanceMethod yX11_car ∈ vT ∧ Cond.selects yX11_car.cls yX11_car yX11_car ∈ vT := ⟨tb3 41 (by decide +kernel) (by decide +kernel), tb3 42 (by decide +kernel) (by decide +kernel)⟩
theorem mf_X11_newCar : MF yX11_newCar cX11_newCar 3 (some (.object "RegularRally$Car")) 3 := ⟨tb3 47 (by decide +kernel) (by decide +kernel), tb1 1 (by decide +kernel) (by decide +kernel), by decide +kernel, by decide +kernel, by decide, by decide +kernel⟩
theorem st_X11_newCar : Cond.static yX11_newCar ∈ vT := tb3 46 (by decide +kernel) (by decide +kernel)
theorem mf_X5_init : MF yX5_init cX5_init 3 (none) 2 := ⟨tb3 52 (by decide +kernel) (by decide +kernel), tb1 12 (by decide +kernel) (by decide +kernel), by decide +kernel, by decide +kernel, by decide, by decide +kernel⟩
theorem ii_X5_init : yX5_init.name = "<init>" ∧ Cond.instanceMethod yX5_init ∈ vT := ⟨rfl, tb3 51 (by decide +kernel) (by decide +kernel)⟩
theorem mf_X1_init : MF yX1_init cX1_init 3 (none) 2 := ⟨tb3 55 (by decide +kernel) (by decide +kernel), tb1 11 (by decide +kernel) (by decide +kernel), by decide +kernel, by decide +kernel, by decide, by decide +kernel⟩
theorem ii_X1_init : yX1_init.name = "<init>" ∧ Cond.instanceMethod yX1_init ∈ vT := ⟨rfl, tb3 54 (by decide +kernel) (by decide +kernel)⟩
theorem mf_X4_init : MF yX4_init cX4_init 3 (none) 2 := ⟨tb3 85 (by decide +kernel) (by decide +kernel), tb1 13 (by decide +kernel) (by decide +kernel), by decide +kernel, by decide +kernel, by decide, by decide +kernel⟩
theorem ii_X4_init : yX4_init.name = "<init>" ∧ Cond.instanceMethod yX4_init ∈ vT := ⟨rfl, tb3 84 (by decide +kernel) (by decide +kernel)⟩
theorem mf_X11_clock : MF yX11_clock cX11_clock 5 (some .int) 3 := ⟨tb3 106 (by decide +kernel) (by decide +kernel), tb1 1 (by decide +kernel) (by decide +kernel), by decide +kernel, by decide +kernel, by decide, by decide +kernel⟩
theorem iv_X11_clock : Cond.instanceMethod yX11_clock ∈ vT ∧ Cond.selects yX11_clock.cls yX11_clock yX11_clock ∈ vT := ⟨tb3 104 (by decide +kernel) (by decide +kernel), tb3 105 (by decide +kernel) (by decide +kernel)⟩
theorem mf_X11_carOf : MF yX11_carOf cX11_carOf 2 (some (.object "RegularRally$Car")) 1 := ⟨tb3 110 (by decide +kernel) (by decide +kernel), tb1 1 (by decide +kernel) (by decide +kernel), by decide +kernel, by decide +kernel, by decide, by decide +kernel⟩
theorem iv_X11_carOf : Cond.instanceMethod yX11_carOf ∈ vT ∧ Cond.selects yX11_carOf.cls yX11_carOf yX11_carOf ∈ vT := ⟨tb3 109 (by decide +kernel) (by decide +kernel), tbp 12 (by decide +kernel) (by decide +kernel)⟩
theorem mf_X1_isClockedAt : MF yX1_isClockedAt cX1_isClockedAt 2 (some .boolean) 1 := ⟨tb3 117 (by decide +kernel) (by decide +kernel), tb1 11 (by decide +kernel) (by decide +kernel), by decide +kernel, by decide +kernel, by decide, by decide +kernel⟩
theorem iv_X1_isClockedAt : Cond.instanceMethod yX1_isClockedAt ∈ vT ∧ Cond.selects yX1_isClockedAt.cls yX1_isClockedAt yX1_isClockedAt ∈ vT := ⟨tb3 112 (by decide +kernel) (by decide +kernel), tb3 113 (by decide +kernel) (by decide +kernel)⟩
theorem mf_X1_arrive : MF yX1_arrive cX1_arrive 3 (none) 2 := ⟨tb3 124 (by decide +kernel) (by decide +kernel), tb1 11 (by decide +kernel) (by decide +kernel), by decide +kernel, by decide +kernel, by decide, by decide +kernel⟩
theorem iv_X1_arrive : Cond.instanceMethod yX1_arrive ∈ vT ∧ Cond.selects yX1_arrive.cls yX1_arrive yX1_arrive ∈ vT := ⟨tb3 119 (by decide +kernel) (by decide +kernel), tb3 120 (by decide +kernel) (by decide +kernel)⟩
theorem mf_X11_allow : MF yX11_allow cX11_allow 6 (some .int) 3 := ⟨tb3 128 (by decide +kernel) (by decide +kernel), tb1 1 (by decide +kernel) (by decide +kernel), by decide +kernel, by decide +kernel, by decide, by decide +kernel⟩
theorem iv_X11_allow : Cond.instanceMethod yX11_allow ∈ vT ∧ Cond.selects yX11_allow.cls yX11_allow yX11_allow ∈ vT := ⟨tb3 126 (by decide +kernel) (by decide +kernel), tb3 127 (by decide +kernel) (by decide +kernel)⟩
theorem mf_X11_error : MF yX11_error cX11_error 4 (some .long) 2 := ⟨tb3 132 (by decide +kernel) (by decide +kernel), tb1 1 (by decide +kernel) (by decide +kernel), by decide +kernel, by decide +kernel, by decide, by decide +kernel⟩
theorem iv_X11_error : Cond.instanceMethod yX11_error ∈ vT ∧ Cond.selects yX11_error.cls yX11_error yX11_error ∈ vT := ⟨tb3 130 (by decide +kernel) (by decide +kernel), tb3 131 (by decide +kernel) (by decide +kernel)⟩
theorem mf_X11_errorOf : MF yX11_errorOf cX11_errorOf 6 (some .long) 2 := ⟨tb3 136 (by decide +kernel) (by decide +kernel), tb1 1 (by decide +kernel) (by decide +kernel), by decide +kernel, by decide +kernel, by decide, by decide +kernel⟩
theorem iv_X11_errorOf : Cond.instanceMethod yX11_errorOf ∈ vT ∧ Cond.selects yX11_errorOf.cls yX11_errorOf yX11_errorOf ∈ vT := ⟨tb3 135 (by decide +kernel) (by decide +kernel), tbp 13 (by decide +kernel) (by decide +kernel)⟩
theorem mf_X11_carriedTo : MF yX11_carriedTo cX11_carriedTo 5 (some .int) 2 := ⟨tb3 140 (by decide +kernel) (by decide +kernel), tb1 1 (by decide +kernel) (by decide +kernel), by decide +kernel, by decide +kernel, by decide, by decide +kernel⟩
theorem iv_X11_carriedTo : Cond.instanceMethod yX11_carriedTo ∈ vT ∧ Cond.selects yX11_carriedTo.cls yX11_carriedTo yX11_carriedTo ∈ vT := ⟨tb3 139 (by decide +kernel) (by decide +kernel), tbp 14 (by decide +kernel) (by decide +kernel)⟩
theorem mf_X11_points : MF yX11_points cX11_points 4 (some .int) 2 := ⟨tb3 150 (by decide +kernel) (by decide +kernel), tb1 1 (by decide +kernel) (by decide +kernel), by decide +kernel, by decide +kernel, by decide, by decide +kernel⟩
theorem iv_X11_points : Cond.instanceMethod yX11_points ∈ vT ∧ Cond.selects yX11_points.cls yX11_points yX11_points ∈ vT := ⟨tb3 148 (by decide +kernel) (by decide +kernel), tb3 149 (by decide +kernel) (by decide +kernel)⟩
theorem mf_X11_pointsOf : MF yX11_pointsOf cX11_pointsOf 3 (some .int) 2 := ⟨tb3 154 (by decide +kernel) (by decide +kernel), tb1 1 (by decide +kernel) (by decide +kernel), by decide +kernel, by decide +kernel, by decide, by decide +kernel⟩
theorem iv_X11_pointsOf : Cond.instanceMethod yX11_pointsOf ∈ vT ∧ Cond.selects yX11_pointsOf.cls yX11_pointsOf yX11_pointsOf ∈ vT := ⟨tb3 153 (by decide +kernel) (by decide +kernel), tbp 15 (by decide +kernel) (by decide +kernel)⟩
theorem mf_X11_isOutOfOrder : MF yX11_isOutOfOrder cX11_isOutOfOrder 4 (some .boolean) 2 := ⟨tb3 158 (by decide +kernel) (by decide +kernel), tb1 1 (by decide +kernel) (by decide +kernel), by decide +kernel, by decide +kernel, by decide, by decide +kernel⟩
theorem iv_X11_isOutOfOrder : Cond.instanceMethod yX11_isOutOfOrder ∈ vT ∧ Cond.selects yX11_isOutOfOrder.cls yX11_isOutOfOrder yX11_isOutOfOrder ∈ vT := ⟨tb3 157 (by decide +kernel) (by decide +kernel), tbp 16 (by decide +kernel) (by decide +kernel)⟩
theorem mf_X11_pointsForError : MF yX11_pointsForError cX11_pointsForError 4 (some .int) 1 := ⟨tb3 161 (by decide +kernel) (by decide +kernel), tb1 1 (by decide +kernel) (by decide +kernel), by decide +kernel, by decide +kernel, by decide, by decide +kernel⟩
theorem st_X11_pointsForError : Cond.static yX11_pointsForError ∈ vT := tb3 160 (by decide +kernel) (by decide +kernel)
theorem mf_X4_share : MF yX4_share cX4_share 2 (some .int) 1 := ⟨tb3 178 (by decide +kernel) (by decide +kernel), tb1 13 (by decide +kernel) (by decide +kernel), by decide +kernel, by decide +kernel, by decide, by decide +kernel⟩
theorem mf_X5_share : MF yX5_share cX5_share 2 (some .int) 1 := ⟨tb3 181 (by decide +kernel) (by decide +kernel), tb1 12 (by decide +kernel) (by decide +kernel), by decide +kernel, by decide +kernel, by decide, by decide +kernel⟩
theorem mf_X1_share : MF yX1_share cX1_share 2 (some .int) 1 := ⟨tb3 184 (by decide +kernel) (by decide +kernel), tb1 11 (by decide +kernel) (by decide +kernel), by decide +kernel, by decide +kernel, by decide, by decide +kernel⟩
theorem iv_X1_share : Cond.instanceMethod yX1_share ∈ vT ∧ Cond.selects yX1_share.cls yX1_share yX1_share ∈ vT := ⟨tb3 173 (by decide +kernel) (by decide +kernel), tb3 174 (by decide +kernel) (by decide +kernel)⟩
theorem mf_X11_result : MF yX11_result cX11_result 4 (some .int) 2 := ⟨tb3 188 (by decide +kernel) (by decide +kernel), tb1 1 (by decide +kernel) (by decide +kernel), by decide +kernel, by decide +kernel, by decide, by decide +kernel⟩
theorem iv_X11_result : Cond.instanceMethod yX11_result ∈ vT ∧ Cond.selects yX11_result.cls yX11_result yX11_result ∈ vT := ⟨tb3 186 (by decide +kernel) (by decide +kernel), tb3 187 (by decide +kernel) (by decide +kernel)⟩
theorem mf_X11_totalOf : MF yX11_totalOf cX11_totalOf 4 (some .int) 1 := ⟨tb3 192 (by decide +kernel) (by decide +kernel), tb1 1 (by decide +kernel) (by decide +kernel), by decide +kernel, by decide +kernel, by decide, by decide +kernel⟩
theorem iv_X11_totalOf : Cond.instanceMethod yX11_totalOf ∈ vT ∧ Cond.selects yX11_totalOf.cls yX11_totalOf yX11_totalOf ∈ vT := ⟨tb3 191 (by decide +kernel) (by decide +kernel), tbp 17 (by decide +kernel) (by decide +kernel)⟩
theorem mf_X11_rankOf : MF yX11_rankOf cX11_rankOf 6 (some .int) 1 := ⟨tb3 196 (by decide +kernel) (by decide +kernel), tb1 1 (by decide +kernel) (by decide +kernel), by decide +kernel, by decide +kernel, by decide, by decide +kernel⟩
theorem iv_X11_rankOf : Cond.instanceMethod yX11_rankOf ∈ vT ∧ Cond.selects yX11_rankOf.cls yX11_rankOf yX11_rankOf ∈ vT := ⟨tb3 195 (by decide +kernel) (by decide +kernel), tbp 18 (by decide +kernel) (by decide +kernel)⟩
theorem mf_X11_isBetterOfTie : MF yX11_isBetterOfTie cX11_isBetterOfTie 8 (some .boolean) 2 := ⟨tb3 200 (by decide +kernel) (by decide +kernel), tb1 1 (by decide +kernel) (by decide +kernel), by decide +kernel, by decide +kernel, by decide, by decide +kernel⟩
theorem iv_X11_isBetterOfTie : Cond.instanceMethod yX11_isBetterOfTie ∈ vT ∧ Cond.selects yX11_isBetterOfTie.cls yX11_isBetterOfTie yX11_isBetterOfTie ∈ vT := ⟨tb3 199 (by decide +kernel) (by decide +kernel), tbp 19 (by decide +kernel) (by decide +kernel)⟩
theorem mf_X11_missedBy : MF yX11_missedBy cX11_missedBy 4 (some .int) 1 := ⟨tb3 204 (by decide +kernel) (by decide +kernel), tb1 1 (by decide +kernel) (by decide +kernel), by decide +kernel, by decide +kernel, by decide, by decide +kernel⟩
theorem iv_X11_missedBy : Cond.instanceMethod yX11_missedBy ∈ vT ∧ Cond.selects yX11_missedBy.cls yX11_missedBy yX11_missedBy ∈ vT := ⟨tb3 203 (by decide +kernel) (by decide +kernel), tbp 20 (by decide +kernel) (by decide +kernel)⟩
theorem mf_X11_outOfOrderBy : MF yX11_outOfOrderBy cX11_outOfOrderBy 4 (some .int) 1 := ⟨tb3 208 (by decide +kernel) (by decide +kernel), tb1 1 (by decide +kernel) (by decide +kernel), by decide +kernel, by decide +kernel, by decide, by decide +kernel⟩
theorem iv_X11_outOfOrderBy : Cond.instanceMethod yX11_outOfOrderBy ∈ vT ∧ Cond.selects yX11_outOfOrderBy.cls yX11_outOfOrderBy yX11_outOfOrderBy ∈ vT := ⟨tb3 207 (by decide +kernel) (by decide +kernel), tbp 21 (by decide +kernel) (by decide +kernel)⟩
theorem mf_X11_sheet : MF yX11_sheet cX11_sheet 5 (some .int) 3 := ⟨tb3 212 (by decide +kernel) (by decide +kernel), tb1 1 (by decide +kernel) (by decide +kernel), by decide +kernel, by decide +kernel, by decide, by decide +kernel⟩
theorem iv_X11_sheet : Cond.instanceMethod yX11_sheet ∈ vT ∧ Cond.selects yX11_sheet.cls yX11_sheet yX11_sheet ∈ vT := ⟨tb3 210 (by decide +kernel) (by decide +kernel), tb3 211 (by decide +kernel) (by decide +kernel)⟩
theorem mf_X9_begin : MF yX9_begin cX9_begin 4 (none) 2 := ⟨tb3 216 (by decide +kernel) (by decide +kernel), tb1 5 (by decide +kernel) (by decide +kernel), by decide +kernel, by decide +kernel, by decide, by decide +kernel⟩
theorem iv_X9_begin : Cond.instanceMethod yX9_begin ∈ vT ∧ Cond.selects yX9_begin.cls yX9_begin yX9_begin ∈ vT := ⟨tb3 214 (by decide +kernel) (by decide +kernel), tb3 215 (by decide +kernel) (by decide +kernel)⟩
theorem mf_X11_lose : MF yX11_lose cX11_lose 3 (some .int) 1 := ⟨tb3 220 (by decide +kernel) (by decide +kernel), tb1 1 (by decide +kernel) (by decide +kernel), by decide +kernel, by decide +kernel, by decide, by decide +kernel⟩
theorem iv_X11_lose : Cond.instanceMethod yX11_lose ∈ vT ∧ Cond.selects yX11_lose.cls yX11_lose yX11_lose ∈ vT := ⟨tb3 218 (by decide +kernel) (by decide +kernel), tb3 219 (by decide +kernel) (by decide +kernel)⟩
theorem mf_X11_put : MF yX11_put cX11_put 6 (some .int) 3 := ⟨tb3 224 (by decide +kernel) (by decide +kernel), tb1 1 (by decide +kernel) (by decide +kernel), by decide +kernel, by decide +kernel, by decide, by decide +kernel⟩
theorem iv_X11_put : Cond.instanceMethod yX11_put ∈ vT ∧ Cond.selects yX11_put.cls yX11_put yX11_put ∈ vT := ⟨tb3 222 (by decide +kernel) (by decide +kernel), tb3 223 (by decide +kernel) (by decide +kernel)⟩
theorem mf_X11_cutToLane : MF yX11_cutToLane cX11_cutToLane 2 (some .int) 2 := ⟨tb3 227 (by decide +kernel) (by decide +kernel), tb1 1 (by decide +kernel) (by decide +kernel), by decide +kernel, by decide +kernel, by decide, by decide +kernel⟩
theorem st_X11_cutToLane : Cond.static yX11_cutToLane ∈ vT := tb3 226 (by decide +kernel) (by decide +kernel)
theorem mf_X11_cell : MF yX11_cell cX11_cell 6 (some .long) 3 := ⟨tb3 231 (by decide +kernel) (by decide +kernel), tb1 1 (by decide +kernel) (by decide +kernel), by decide +kernel, by decide +kernel, by decide, by decide +kernel⟩
theorem iv_X11_cell : Cond.instanceMethod yX11_cell ∈ vT ∧ Cond.selects yX11_cell.cls yX11_cell yX11_cell ∈ vT := ⟨tb3 229 (by decide +kernel) (by decide +kernel), tb3 230 (by decide +kernel) (by decide +kernel)⟩
theorem mf_X11_copy : MF yX11_copy cX11_copy 8 (some .int) 5 := ⟨tb3 235 (by decide +kernel) (by decide +kernel), tb1 1 (by decide +kernel) (by decide +kernel), by decide +kernel, by decide +kernel, by decide, by decide +kernel⟩
theorem iv_X11_copy : Cond.instanceMethod yX11_copy ∈ vT ∧ Cond.selects yX11_copy.cls yX11_copy yX11_copy ∈ vT := ⟨tb3 233 (by decide +kernel) (by decide +kernel), tb3 234 (by decide +kernel) (by decide +kernel)⟩
theorem mf_X11_tell : MF yX11_tell cX11_tell 3 (some .int) 1 := ⟨tb4 3 (by decide +kernel) (by decide +kernel), tb1 1 (by decide +kernel) (by decide +kernel), by decide +kernel, by decide +kernel, by decide, by decide +kernel⟩
theorem iv_X11_tell : Cond.instanceMethod yX11_tell ∈ vT ∧ Cond.selects yX11_tell.cls yX11_tell yX11_tell ∈ vT := ⟨tb4 1 (by decide +kernel) (by decide +kernel), tb4 2 (by decide +kernel) (by decide +kernel)⟩
theorem mf_X3_telling : MF yX3_telling cX3_telling 3 (some .int) 1 := ⟨tb4 10 (by decide +kernel) (by decide +kernel), tb1 9 (by decide +kernel) (by decide +kernel), by decide +kernel, by decide +kernel, by decide, by decide +kernel⟩
theorem mf_X11_leaveNumber : MF yX11_leaveNumber cX11_leaveNumber 2 (none) 1 := ⟨tb4 14 (by decide +kernel) (by decide +kernel), tb1 1 (by decide +kernel) (by decide +kernel), by decide +kernel, by decide +kernel, by decide, by decide +kernel⟩
theorem iv_X11_leaveNumber : Cond.instanceMethod yX11_leaveNumber ∈ vT ∧ Cond.selects yX11_leaveNumber.cls yX11_leaveNumber yX11_leaveNumber ∈ vT := ⟨tb4 13 (by decide +kernel) (by decide +kernel), tbp 22 (by decide +kernel) (by decide +kernel)⟩
theorem mf_X6_telling : MF yX6_telling cX6_telling 2 (some .int) 1 := ⟨tb4 18 (by decide +kernel) (by decide +kernel), tb1 8 (by decide +kernel) (by decide +kernel), by decide +kernel, by decide +kernel, by decide, by decide +kernel⟩
theorem mf_X7_telling : MF yX7_telling cX7_telling 2 (some .int) 1 := ⟨tb4 21 (by decide +kernel) (by decide +kernel), tb1 7 (by decide +kernel) (by decide +kernel), by decide +kernel, by decide +kernel, by decide, by decide +kernel⟩
theorem iv_X7_telling : Cond.instanceMethod yX7_telling ∈ vT ∧ Cond.selects yX7_telling.cls yX7_telling yX7_telling ∈ vT := ⟨tb4 5 (by decide +kernel) (by decide +kernel), tb4 6 (by decide +kernel) (by decide +kernel)⟩
theorem mf_X11_greet : MF yX11_greet cX11_greet 3 (some .int) 1 := ⟨tb4 26 (by decide +kernel) (by decide +kernel), tb1 1 (by decide +kernel) (by decide +kernel), by decide +kernel, by decide +kernel, by decide, by decide +kernel⟩
theorem iv_X11_greet : Cond.instanceMethod yX11_greet ∈ vT ∧ Cond.selects yX11_greet.cls yX11_greet yX11_greet ∈ vT := ⟨tb4 24 (by decide +kernel) (by decide +kernel), tb4 25 (by decide +kernel) (by decide +kernel)⟩
theorem mf_X4_greeting : MF yX4_greeting cX4_greeting 2 (some .int) 1 := ⟨tb4 33 (by decide +kernel) (by decide +kernel), tb1 13 (by decide +kernel) (by decide +kernel), by decide +kernel, by decide +kernel, by decide, by decide +kernel⟩
theorem mf_X5_greeting : MF yX5_greeting cX5_greeting 2 (some .int) 1 := ⟨tb4 37 (by decide +kernel) (by decide +kernel), tb1 12 (by decide +kernel) (by decide +kernel), by decide +kernel, by decide +kernel, by decide, by decide +kernel⟩
theorem mf_X1_greeting : MF yX1_greeting cX1_greeting 2 (some .int) 1 := ⟨tb4 40 (by decide +kernel) (by decide +kernel), tb1 11 (by decide +kernel) (by decide +kernel), by decide +kernel, by decide +kernel, by decide, by decide +kernel⟩
theorem iv_X1_greeting : Cond.instanceMethod yX1_greeting ∈ vT ∧ Cond.selects yX1_greeting.cls yX1_greeting yX1_greeting ∈ vT := ⟨tb4 28 (by decide +kernel) (by decide +kernel), tb4 29 (by decide +kernel) (by decide +kernel)⟩
theorem mf_X11_as : MF yX11_as cX11_as 4 (some .int) 2 := ⟨tb4 45 (by decide +kernel) (by decide +kernel), tb1 1 (by decide +kernel) (by decide +kernel), by decide +kernel, by decide +kernel, by decide, by decide +kernel⟩
theorem iv_X11_as : Cond.instanceMethod yX11_as ∈ vT ∧ Cond.selects yX11_as.cls yX11_as yX11_as ∈ vT := ⟨tb4 43 (by decide +kernel) (by decide +kernel), tb4 44 (by decide +kernel) (by decide +kernel)⟩
theorem mf_X11_isOfClass : MF yX11_isOfClass cX11_isOfClass 2 (some .boolean) 2 := ⟨tb4 48 (by decide +kernel) (by decide +kernel), tb1 1 (by decide +kernel) (by decide +kernel), by decide +kernel, by decide +kernel, by decide, by decide +kernel⟩
theorem st_X11_isOfClass : Cond.static yX11_isOfClass ∈ vT := tb4 47 (by decide +kernel) (by decide +kernel)
theorem mf_X11_trace : MF yX11_trace cX11_trace 1 (some .int) 0 := ⟨tb4 52 (by decide +kernel) (by decide +kernel), tb1 1 (by decide +kernel) (by decide +kernel), by decide +kernel, by decide +kernel, by decide, by decide +kernel⟩
theorem iv_X11_trace : Cond.instanceMethod yX11_trace ∈ vT ∧ Cond.selects yX11_trace.cls yX11_trace yX11_trace ∈ vT := ⟨tb4 50 (by decide +kernel) (by decide +kernel), tb4 51 (by decide +kernel) (by decide +kernel)⟩
theorem mf_X11_fault : MF yX11_fault cX11_fault 1 (some .int) 0 := ⟨tb4 56 (by decide +kernel) (by decide +kernel), tb1 1 (by decide +kernel) (by decide +kernel), by decide +kernel, by decide +kernel, by decide, by decide +kernel⟩
theorem iv_X11_fault : Cond.instanceMethod yX11_fault ∈ vT ∧ Cond.selects yX11_fault.cls yX11_fault yX11_fault ∈ vT := ⟨tb4 54 (by decide +kernel) (by decide +kernel), tb4 55 (by decide +kernel) (by decide +kernel)⟩
theorem mf_X11_told : MF yX11_told cX11_told 2 (some .int) 1 := ⟨tb4 60 (by decide +kernel) (by decide +kernel), tb1 1 (by decide +kernel) (by decide +kernel), by decide +kernel, by decide +kernel, by decide, by decide +kernel⟩
theorem iv_X11_told : Cond.instanceMethod yX11_told ∈ vT ∧ Cond.selects yX11_told.cls yX11_told yX11_told ∈ vT := ⟨tb4 58 (by decide +kernel) (by decide +kernel), tb4 59 (by decide +kernel) (by decide +kernel)⟩
theorem mf_X12_init : MF yX12_init cX12_init 2 (none) 0 := ⟨tb4 65 (by decide +kernel) (by decide +kernel), tb1 6 (by decide +kernel) (by decide +kernel), by decide +kernel, by decide +kernel, by decide, by decide +kernel⟩
theorem ii_X12_init : yX12_init.name = "<init>" ∧ Cond.instanceMethod yX12_init ∈ vT := ⟨rfl, tb4 64 (by decide +kernel) (by decide +kernel)⟩
theorem mf_X12_road : MF yX12_road cX12_road 5 (some .int) 4 := ⟨tb4 201 (by decide +kernel) (by decide +kernel), tb1 6 (by decide +kernel) (by decide +kernel), by decide +kernel, by decide +kernel, by decide, by decide +kernel⟩
theorem iv_X12_road : Cond.instanceMethod yX12_road ∈ vT ∧ Cond.selects yX12_road.cls yX12_road yX12_road ∈ vT := ⟨tb4 199 (by decide +kernel) (by decide +kernel), tb4 200 (by decide +kernel) (by decide +kernel)⟩
theorem mf_X12_isSpot : MF yX12_isSpot cX12_isSpot 1 (some .boolean) 1 := ⟨tb4 204 (by decide +kernel) (by decide +kernel), tb1 6 (by decide +kernel) (by decide +kernel), by decide +kernel, by decide +kernel, by decide, by decide +kernel⟩
theorem st_X12_isSpot : Cond.static yX12_isSpot ∈ vT := tb4 203 (by decide +kernel) (by decide +kernel)
theorem mf_X12_in : MF yX12_in cX12_in 6 (some .boolean) 3 := ⟨tb4 208 (by decide +kernel) (by decide +kernel), tb1 6 (by decide +kernel) (by decide +kernel), by decide +kernel, by decide +kernel, by decide, by decide +kernel⟩
theorem st_X12_in : Cond.static yX12_in ∈ vT := tb4 207 (by decide +kernel) (by decide +kernel)
theorem mf_X12_shut : MF yX12_shut cX12_shut 4 (some .int) 2 := ⟨tb4 214 (by decide +kernel) (by decide +kernel), tb1 6 (by decide +kernel) (by decide +kernel), by decide +kernel, by decide +kernel, by decide, by decide +kernel⟩
theorem iv_X12_shut : Cond.instanceMethod yX12_shut ∈ vT ∧ Cond.selects yX12_shut.cls yX12_shut yX12_shut ∈ vT := ⟨tb4 212 (by decide +kernel) (by decide +kernel), tb4 213 (by decide +kernel) (by decide +kernel)⟩
theorem mf_X12_noRoad : MF yX12_noRoad cX12_noRoad 2 (some .boolean) 1 := ⟨tb4 218 (by decide +kernel) (by decide +kernel), tb1 6 (by decide +kernel) (by decide +kernel), by decide +kernel, by decide +kernel, by decide, by decide +kernel⟩
theorem iv_X12_noRoad : Cond.instanceMethod yX12_noRoad ∈ vT ∧ Cond.selects yX12_noRoad.cls yX12_noRoad yX12_noRoad ∈ vT := ⟨tb4 217 (by decide +kernel) (by decide +kernel), tbp 23 (by decide +kernel) (by decide +kernel)⟩
theorem mf_X12_wet : MF yX12_wet cX12_wet 4 (some .int) 2 := ⟨tb4 222 (by decide +kernel) (by decide +kernel), tb1 6 (by decide +kernel) (by decide +kernel), by decide +kernel, by decide +kernel, by decide, by decide +kernel⟩
theorem iv_X12_wet : Cond.instanceMethod yX12_wet ∈ vT ∧ Cond.selects yX12_wet.cls yX12_wet yX12_wet ∈ vT := ⟨tb4 220 (by decide +kernel) (by decide +kernel), tb4 221 (by decide +kernel) (by decide +kernel)⟩
theorem mf_X12_refused : MF yX12_refused cX12_refused 2 (some .int) 1 := ⟨tb4 226 (by decide +kernel) (by decide +kernel), tb1 6 (by decide +kernel) (by decide +kernel), by decide +kernel, by decide +kernel, by decide, by decide +kernel⟩
theorem iv_X12_refused : Cond.instanceMethod yX12_refused ∈ vT ∧ Cond.selects yX12_refused.cls yX12_refused yX12_refused ∈ vT := ⟨tb4 225 (by decide +kernel) (by decide +kernel), tbp 24 (by decide +kernel) (by decide +kernel)⟩
theorem mf_X12_failed : MF yX12_failed cX12_failed 2 (some .int) 1 := ⟨tb4 230 (by decide +kernel) (by decide +kernel), tb1 6 (by decide +kernel) (by decide +kernel), by decide +kernel, by decide +kernel, by decide, by decide +kernel⟩
theorem iv_X12_failed : Cond.instanceMethod yX12_failed ∈ vT ∧ Cond.selects yX12_failed.cls yX12_failed yX12_failed ∈ vT := ⟨tb4 229 (by decide +kernel) (by decide +kernel), tbp 25 (by decide +kernel) (by decide +kernel)⟩
theorem mf_X12_about : MF yX12_about cX12_about 4 (some .int) 2 := ⟨tb4 234 (by decide +kernel) (by decide +kernel), tb1 6 (by decide +kernel) (by decide +kernel), by decide +kernel, by decide +kernel, by decide, by decide +kernel⟩
theorem iv_X12_about : Cond.instanceMethod yX12_about ∈ vT ∧ Cond.selects yX12_about.cls yX12_about yX12_about ∈ vT := ⟨tb4 232 (by decide +kernel) (by decide +kernel), tb4 233 (by decide +kernel) (by decide +kernel)⟩
theorem mf_X12_sheet : MF yX12_sheet cX12_sheet 5 (some .int) 3 := ⟨tb4 238 (by decide +kernel) (by decide +kernel), tb1 6 (by decide +kernel) (by decide +kernel), by decide +kernel, by decide +kernel, by decide, by decide +kernel⟩
theorem iv_X12_sheet : Cond.instanceMethod yX12_sheet ∈ vT ∧ Cond.selects yX12_sheet.cls yX12_sheet yX12_sheet ∈ vT := ⟨tb4 236 (by decide +kernel) (by decide +kernel), tb4 237 (by decide +kernel) (by decide +kernel)⟩
theorem mf_X12_noSheet : MF yX12_noSheet cX12_noSheet 1 (some .boolean) 1 := ⟨tb5 1 (by decide +kernel) (by decide +kernel), tb1 6 (by decide +kernel) (by decide +kernel), by decide +kernel, by decide +kernel, by decide, by decide +kernel⟩
theorem st_X12_noSheet : Cond.static yX12_noSheet ∈ vT := tb5 0 (by decide +kernel) (by decide +kernel)
theorem mf_X12_lose : MF yX12_lose cX12_lose 3 (some .int) 1 := ⟨tb5 6 (by decide +kernel) (by decide +kernel), tb1 6 (by decide +kernel) (by decide +kernel), by decide +kernel, by decide +kernel, by decide, by decide +kernel⟩
theorem iv_X12_lose : Cond.instanceMethod yX12_lose ∈ vT ∧ Cond.selects yX12_lose.cls yX12_lose yX12_lose ∈ vT := ⟨tb5 4 (by decide +kernel) (by decide +kernel), tb5 5 (by decide +kernel) (by decide +kernel)⟩
theorem mf_X12_put : MF yX12_put cX12_put 4 (some .int) 3 := ⟨tb5 10 (by decide +kernel) (by decide +kernel), tb1 6 (by decide +kernel) (by decide +kernel), by decide +kernel, by decide +kernel, by decide, by decide +kernel⟩
theorem iv_X12_put : Cond.instanceMethod yX12_put ∈ vT ∧ Cond.selects yX12_put.cls yX12_put yX12_put ∈ vT := ⟨tb5 8 (by decide +kernel) (by decide +kernel), tb5 9 (by decide +kernel) (by decide +kernel)⟩
theorem mf_X12_noCell : MF yX12_noCell cX12_noCell 3 (some .int) 2 := ⟨tb5 14 (by decide +kernel) (by decide +kernel), tb1 6 (by decide +kernel) (by decide +kernel), by decide +kernel, by decide +kernel, by decide, by decide +kernel⟩
theorem iv_X12_noCell : Cond.instanceMethod yX12_noCell ∈ vT ∧ Cond.selects yX12_noCell.cls yX12_noCell yX12_noCell ∈ vT := ⟨tb5 13 (by decide +kernel) (by decide +kernel), tbp 26 (by decide +kernel) (by decide +kernel)⟩
theorem mf_X12_cell : MF yX12_cell cX12_cell 4 (some .long) 3 := ⟨tb5 18 (by decide +kernel) (by decide +kernel), tb1 6 (by decide +kernel) (by decide +kernel), by decide +kernel, by decide +kernel, by decide, by decide +kernel⟩
theorem iv_X12_cell : Cond.instanceMethod yX12_cell ∈ vT ∧ Cond.selects yX12_cell.cls yX12_cell yX12_cell ∈ vT := ⟨tb5 16 (by decide +kernel) (by decide +kernel), tb5 17 (by decide +kernel) (by decide +kernel)⟩
theorem mf_X12_lost : MF yX12_lost cX12_lost 0 (some .long) 0 := ⟨tb5 21 (by decide +kernel) (by decide +kernel), tb1 6 (by decide +kernel) (by decide +kernel), by decide +kernel, by decide +kernel, by decide, by decide +kernel⟩
theorem st_X12_lost : Cond.static yX12_lost ∈ vT := tb5 20 (by decide +kernel) (by decide +kernel)
theorem mf_X12_failedLong : MF yX12_failedLong cX12_failedLong 2 (some .long) 1 := ⟨tb5 26 (by decide +kernel) (by decide +kernel), tb1 6 (by decide +kernel) (by decide +kernel), by decide +kernel, by decide +kernel, by decide, by decide +kernel⟩
theorem iv_X12_failedLong : Cond.instanceMethod yX12_failedLong ∈ vT ∧ Cond.selects yX12_failedLong.cls yX12_failedLong yX12_failedLong ∈ vT := ⟨tb5 25 (by decide +kernel) (by decide +kernel), tbp 27 (by decide +kernel) (by decide +kernel)⟩
theorem mf_X12_copy : MF yX12_copy cX12_copy 7 (some .int) 5 := ⟨tb5 30 (by decide +kernel) (by decide +kernel), tb1 6 (by decide +kernel) (by decide +kernel), by decide +kernel, by decide +kernel, by decide, by decide +kernel⟩
theorem iv_X12_copy : Cond.instanceMethod yX12_copy ∈ vT ∧ Cond.selects yX12_copy.cls yX12_copy yX12_copy ∈ vT := ⟨tb5 28 (by decide +kernel) (by decide +kernel), tb5 29 (by decide +kernel) (by decide +kernel)⟩
theorem mf_X12_isBeyond : MF yX12_isBeyond cX12_isBeyond 3 (some .boolean) 3 := ⟨tb5 33 (by decide +kernel) (by decide +kernel), tb1 6 (by decide +kernel) (by decide +kernel), by decide +kernel, by decide +kernel, by decide, by decide +kernel⟩
theorem st_X12_isBeyond : Cond.static yX12_isBeyond ∈ vT := tb5 32 (by decide +kernel) (by decide +kernel)
theorem mf_X12_book : MF yX12_book cX12_book 7 (some .int) 4 := ⟨tb5 37 (by decide +kernel) (by decide +kernel), tb1 6 (by decide +kernel) (by decide +kernel), by decide +kernel, by decide +kernel, by decide, by decide +kernel⟩
theorem iv_X12_book : Cond.instanceMethod yX12_book ∈ vT ∧ Cond.selects yX12_book.cls yX12_book yX12_book ∈ vT := ⟨tb5 35 (by decide +kernel) (by decide +kernel), tb5 36 (by decide +kernel) (by decide +kernel)⟩
theorem mf_X12_faultOf : MF yX12_faultOf cX12_faultOf 5 (some .int) 4 := ⟨tb5 41 (by decide +kernel) (by decide +kernel), tb1 6 (by decide +kernel) (by decide +kernel), by decide +kernel, by decide +kernel, by decide, by decide +kernel⟩
theorem iv_X12_faultOf : Cond.instanceMethod yX12_faultOf ∈ vT ∧ Cond.selects yX12_faultOf.cls yX12_faultOf yX12_faultOf ∈ vT := ⟨tb5 40 (by decide +kernel) (by decide +kernel), tbp 28 (by decide +kernel) (by decide +kernel)⟩
theorem mf_X12_isBook : MF yX12_isBook cX12_isBook 7 (some .boolean) 3 := ⟨tb5 45 (by decide +kernel) (by decide +kernel), tb1 6 (by decide +kernel) (by decide +kernel), by decide +kernel, by decide +kernel, by decide, by decide +kernel⟩
theorem iv_X12_isBook : Cond.instanceMethod yX12_isBook ∈ vT ∧ Cond.selects yX12_isBook.cls yX12_isBook yX12_isBook ∈ vT := ⟨tb5 44 (by decide +kernel) (by decide +kernel), tbp 29 (by decide +kernel) (by decide +kernel)⟩
theorem mf_X12_ways : MF yX12_ways cX12_ways 1 (some .int) 0 := ⟨tb5 50 (by decide +kernel) (by decide +kernel), tb1 6 (by decide +kernel) (by decide +kernel), by decide +kernel, by decide +kernel, by decide, by decide +kernel⟩
theorem iv_X12_ways : Cond.instanceMethod yX12_ways ∈ vT ∧ Cond.selects yX12_ways.cls yX12_ways yX12_ways ∈ vT := ⟨tb5 48 (by decide +kernel) (by decide +kernel), tb5 49 (by decide +kernel) (by decide +kernel)⟩
theorem mf_X12_search : MF yX12_search cX12_search 3 (some .boolean) 0 := ⟨tb5 54 (by decide +kernel) (by decide +kernel), tb1 6 (by decide +kernel) (by decide +kernel), by decide +kernel, by decide +kernel, by decide, by decide +kernel⟩
theorem iv_X12_search : Cond.instanceMethod yX12_search ∈ vT ∧ Cond.selects yX12_search.cls yX12_search yX12_search ∈ vT := ⟨tb5 53 (by decide +kernel) (by decide +kernel), tbp 30 (by decide +kernel) (by decide +kernel)⟩
theorem mf_X12_isIn : MF yX12_isIn cX12_isIn 4 (some .boolean) 1 := ⟨tb5 58 (by decide +kernel) (by decide +kernel), tb1 6 (by decide +kernel) (by decide +kernel), by decide +kernel, by decide +kernel, by decide, by decide +kernel⟩
theorem iv_X12_isIn : Cond.instanceMethod yX12_isIn ∈ vT ∧ Cond.selects yX12_isIn.cls yX12_isIn yX12_isIn ∈ vT := ⟨tb5 57 (by decide +kernel) (by decide +kernel), tbp 31 (by decide +kernel) (by decide +kernel)⟩
theorem mf_X12_leads : MF yX12_leads cX12_leads 3 (some .int) 2 := ⟨tb5 62 (by decide +kernel) (by decide +kernel), tb1 6 (by decide +kernel) (by decide +kernel), by decide +kernel, by decide +kernel, by decide, by decide +kernel⟩
theorem iv_X12_leads : Cond.instanceMethod yX12_leads ∈ vT ∧ Cond.selects yX12_leads.cls yX12_leads yX12_leads ∈ vT := ⟨tb5 61 (by decide +kernel) (by decide +kernel), tbp 32 (by decide +kernel) (by decide +kernel)⟩
theorem mf_X12_judge : MF yX12_judge cX12_judge 2 (none) 0 := ⟨tb5 67 (by decide +kernel) (by decide +kernel), tb1 6 (by decide +kernel) (by decide +kernel), by decide +kernel, by decide +kernel, by decide, by decide +kernel⟩
theorem iv_X12_judge : Cond.instanceMethod yX12_judge ∈ vT ∧ Cond.selects yX12_judge.cls yX12_judge yX12_judge ∈ vT := ⟨tb5 66 (by decide +kernel) (by decide +kernel), tbp 33 (by decide +kernel) (by decide +kernel)⟩
theorem mf_X12_lay : MF yX12_lay cX12_lay 2 (some .int) 0 := ⟨tb5 71 (by decide +kernel) (by decide +kernel), tb1 6 (by decide +kernel) (by decide +kernel), by decide +kernel, by decide +kernel, by decide, by decide +kernel⟩
theorem iv_X12_lay : Cond.instanceMethod yX12_lay ∈ vT ∧ Cond.selects yX12_lay.cls yX12_lay yX12_lay ∈ vT := ⟨tb5 69 (by decide +kernel) (by decide +kernel), tb5 70 (by decide +kernel) (by decide +kernel)⟩
theorem mf_X12_laid : MF yX12_laid cX12_laid 2 (some .int) 1 := ⟨tb5 75 (by decide +kernel) (by decide +kernel), tb1 6 (by decide +kernel) (by decide +kernel), by decide +kernel, by decide +kernel, by decide, by decide +kernel⟩
theorem iv_X12_laid : Cond.instanceMethod yX12_laid ∈ vT ∧ Cond.selects yX12_laid.cls yX12_laid yX12_laid ∈ vT := ⟨tb5 73 (by decide +kernel) (by decide +kernel), tb5 74 (by decide +kernel) (by decide +kernel)⟩
theorem mf_X12_proof : MF yX12_proof cX12_proof 6 (some .long) 4 := ⟨tb5 79 (by decide +kernel) (by decide +kernel), tb1 6 (by decide +kernel) (by decide +kernel), by decide +kernel, by decide +kernel, by decide, by decide +kernel⟩
theorem iv_X12_proof : Cond.instanceMethod yX12_proof ∈ vT ∧ Cond.selects yX12_proof.cls yX12_proof yX12_proof ∈ vT := ⟨tb5 77 (by decide +kernel) (by decide +kernel), tb5 78 (by decide +kernel) (by decide +kernel)⟩
theorem mf_X12_proved : MF yX12_proved cX12_proved 11 (some .long) 3 := ⟨tb5 83 (by decide +kernel) (by decide +kernel), tb1 6 (by decide +kernel) (by decide +kernel), by decide +kernel, by decide +kernel, by decide, by decide +kernel⟩
theorem iv_X12_proved : Cond.instanceMethod yX12_proved ∈ vT ∧ Cond.selects yX12_proved.cls yX12_proved yX12_proved ∈ vT := ⟨tb5 82 (by decide +kernel) (by decide +kernel), tbp 34 (by decide +kernel) (by decide +kernel)⟩
theorem mf_X12_wasAhead : MF yX12_wasAhead cX12_wasAhead 6 (some .boolean) 3 := ⟨tb5 87 (by decide +kernel) (by decide +kernel), tb1 6 (by decide +kernel) (by decide +kernel), by decide +kernel, by decide +kernel, by decide, by decide +kernel⟩
theorem iv_X12_wasAhead : Cond.instanceMethod yX12_wasAhead ∈ vT ∧ Cond.selects yX12_wasAhead.cls yX12_wasAhead yX12_wasAhead ∈ vT := ⟨tb5 86 (by decide +kernel) (by decide +kernel), tbp 35 (by decide +kernel) (by decide +kernel)⟩
theorem mf_X12_speed : MF yX12_speed cX12_speed 3 (some .int) 2 := ⟨tb5 93 (by decide +kernel) (by decide +kernel), tb1 6 (by decide +kernel) (by decide +kernel), by decide +kernel, by decide +kernel, by decide, by decide +kernel⟩
theorem iv_X12_speed : Cond.instanceMethod yX12_speed ∈ vT ∧ Cond.selects yX12_speed.cls yX12_speed yX12_speed ∈ vT := ⟨tb5 91 (by decide +kernel) (by decide +kernel), tb5 92 (by decide +kernel) (by decide +kernel)⟩
theorem mf_X12_due : MF yX12_due cX12_due 2 (some .long) 1 := ⟨tb5 98 (by decide +kernel) (by decide +kernel), tb1 6 (by decide +kernel) (by decide +kernel), by decide +kernel, by decide +kernel, by decide, by decide +kernel⟩
theorem iv_X12_due : Cond.instanceMethod yX12_due ∈ vT ∧ Cond.selects yX12_due.cls yX12_due yX12_due ∈ vT := ⟨tb5 96 (by decide +kernel) (by decide +kernel), tb5 97 (by decide +kernel) (by decide +kernel)⟩
theorem mf_X12_hasDue : MF yX12_hasDue cX12_hasDue 3 (some .boolean) 0 := ⟨tb5 102 (by decide +kernel) (by decide +kernel), tb1 6 (by decide +kernel) (by decide +kernel), by decide +kernel, by decide +kernel, by decide, by decide +kernel⟩
theorem iv_X12_hasDue : Cond.instanceMethod yX12_hasDue ∈ vT ∧ Cond.selects yX12_hasDue.cls yX12_hasDue yX12_hasDue ∈ vT := ⟨tb5 101 (by decide +kernel) (by decide +kernel), tbp 36 (by decide +kernel) (by decide +kernel)⟩
theorem mf_X12_dueAt : MF yX12_dueAt cX12_dueAt 8 (some .long) 1 := ⟨tb5 106 (by decide +kernel) (by decide +kernel), tb1 6 (by decide +kernel) (by decide +kernel), by decide +kernel, by decide +kernel, by decide, by decide +kernel⟩
theorem iv_X12_dueAt : Cond.instanceMethod yX12_dueAt ∈ vT ∧ Cond.selects yX12_dueAt.cls yX12_dueAt yX12_dueAt ∈ vT := ⟨tb5 105 (by decide +kernel) (by decide +kernel), tbp 37 (by decide +kernel) (by decide +kernel)⟩
theorem mf_X12_roadAt : MF yX12_roadAt cX12_roadAt 4 (some .int) 1 := ⟨tb5 111 (by decide +kernel) (by decide +kernel), tb1 6 (by decide +kernel) (by decide +kernel), by decide +kernel, by decide +kernel, by decide, by decide +kernel⟩
theorem iv_X12_roadAt : Cond.instanceMethod yX12_roadAt ∈ vT ∧ Cond.selects yX12_roadAt.cls yX12_roadAt yX12_roadAt ∈ vT := ⟨tb5 109 (by decide +kernel) (by decide +kernel), tb5 110 (by decide +kernel) (by decide +kernel)⟩
theorem mf_X12_control : MF yX12_control cX12_control 3 (some .int) 1 := ⟨tb5 115 (by decide +kernel) (by decide +kernel), tb1 6 (by decide +kernel) (by decide +kernel), by decide +kernel, by decide +kernel, by decide, by decide +kernel⟩
theorem iv_X12_control : Cond.instanceMethod yX12_control ∈ vT ∧ Cond.selects yX12_control.cls yX12_control yX12_control ∈ vT := ⟨tb5 113 (by decide +kernel) (by decide +kernel), tb5 114 (by decide +kernel) (by decide +kernel)⟩
theorem mf_X12_watch : MF yX12_watch cX12_watch 6 (some .int) 5 := ⟨tb5 119 (by decide +kernel) (by decide +kernel), tb1 6 (by decide +kernel) (by decide +kernel), by decide +kernel, by decide +kernel, by decide, by decide +kernel⟩
theorem iv_X12_watch : Cond.instanceMethod yX12_watch ∈ vT ∧ Cond.selects yX12_watch.cls yX12_watch yX12_watch ∈ vT := ⟨tb5 117 (by decide +kernel) (by decide +kernel), tb5 118 (by decide +kernel) (by decide +kernel)⟩
theorem mf_X12_noControl : MF yX12_noControl cX12_noControl 2 (some .boolean) 1 := ⟨tb5 123 (by decide +kernel) (by decide +kernel), tb1 6 (by decide +kernel) (by decide +kernel), by decide +kernel, by decide +kernel, by decide, by decide +kernel⟩
theorem iv_X12_noControl : Cond.instanceMethod yX12_noControl ∈ vT ∧ Cond.selects yX12_noControl.cls yX12_noControl yX12_noControl ∈ vT := ⟨tb5 122 (by decide +kernel) (by decide +kernel), tbp 38 (by decide +kernel) (by decide +kernel)⟩
theorem mf_X12_isTime : MF yX12_isTime cX12_isTime 1 (some .boolean) 1 := ⟨tb5 126 (by decide +kernel) (by decide +kernel), tb1 6 (by decide +kernel) (by decide +kernel), by decide +kernel, by decide +kernel, by decide, by decide +kernel⟩
theorem st_X12_isTime : Cond.static yX12_isTime ∈ vT := tb5 125 (by decide +kernel) (by decide +kernel)
theorem mf_X12_right : MF yX12_right cX12_right 3 (some .long) 2 := ⟨tb5 131 (by decide +kernel) (by decide +kernel), tb1 6 (by decide +kernel) (by decide +kernel), by decide +kernel, by decide +kernel, by decide, by decide +kernel⟩
theorem iv_X12_right : Cond.instanceMethod yX12_right ∈ vT ∧ Cond.selects yX12_right.cls yX12_right yX12_right ∈ vT := ⟨tb5 129 (by decide +kernel) (by decide +kernel), tb5 130 (by decide +kernel) (by decide +kernel)⟩
theorem mf_X12_rightAt : MF yX12_rightAt cX12_rightAt 8 (some .long) 2 := ⟨tb5 135 (by decide +kernel) (by decide +kernel), tb1 6 (by decide +kernel) (by decide +kernel), by decide +kernel, by decide +kernel, by decide, by decide +kernel⟩
theorem iv_X12_rightAt : Cond.instanceMethod yX12_rightAt ∈ vT ∧ Cond.selects yX12_rightAt.cls yX12_rightAt yX12_rightAt ∈ vT := ⟨tb5 134 (by decide +kernel) (by decide +kernel), tbp 39 (by decide +kernel) (by decide +kernel)⟩
theorem mf_X12_strike : MF yX12_strike cX12_strike 4 (some .int) 2 := ⟨tb5 139 (by decide +kernel) (by decide +kernel), tb1 6 (by decide +kernel) (by decide +kernel), by decide +kernel, by decide +kernel, by decide, by decide +kernel⟩
theorem iv_X12_strike : Cond.instanceMethod yX12_strike ∈ vT ∧ Cond.selects yX12_strike.cls yX12_strike yX12_strike ∈ vT := ⟨tb5 137 (by decide +kernel) (by decide +kernel), tb5 138 (by decide +kernel) (by decide +kernel)⟩
theorem mf_X12_car : MF yX12_car cX12_car 3 (some .int) 2 := ⟨tb5 143 (by decide +kernel) (by decide +kernel), tb1 6 (by decide +kernel) (by decide +kernel), by decide +kernel, by decide +kernel, by decide, by decide +kernel⟩
theorem iv_X12_car : Cond.instanceMethod yX12_car ∈ vT ∧ Cond.selects yX12_car.cls yX12_car yX12_car ∈ vT := ⟨tb5 141 (by decide +kernel) (by decide +kernel), tb5 142 (by decide +kernel) (by decide +kernel)⟩
theorem mf_X12_clock : MF yX12_clock cX12_clock 4 (some .int) 3 := ⟨tb5 148 (by decide +kernel) (by decide +kernel), tb1 6 (by decide +kernel) (by decide +kernel), by decide +kernel, by decide +kernel, by decide, by decide +kernel⟩
theorem iv_X12_clock : Cond.instanceMethod yX12_clock ∈ vT ∧ Cond.selects yX12_clock.cls yX12_clock yX12_clock ∈ vT := ⟨tb5 146 (by decide +kernel) (by decide +kernel), tb5 147 (by decide +kernel) (by decide +kernel)⟩
theorem mf_X12_noCar : MF yX12_noCar cX12_noCar 2 (some .boolean) 1 := ⟨tb5 152 (by decide +kernel) (by decide +kernel), tb1 6 (by decide +kernel) (by decide +kernel), by decide +kernel, by decide +kernel, by decide, by decide +kernel⟩
theorem iv_X12_noCar : Cond.instanceMethod yX12_noCar ∈ vT ∧ Cond.selects yX12_noCar.cls yX12_noCar yX12_noCar ∈ vT := ⟨tb5 151 (by decide +kernel) (by decide +kernel), tbp 40 (by decide +kernel) (by decide +kernel)⟩
theorem mf_X12_allow : MF yX12_allow cX12_allow 5 (some .int) 3 := ⟨tb5 156 (by decide +kernel) (by decide +kernel), tb1 6 (by decide +kernel) (by decide +kernel), by decide +kernel, by decide +kernel, by decide, by decide +kernel⟩
theorem iv_X12_allow : Cond.instanceMethod yX12_allow ∈ vT ∧ Cond.selects yX12_allow.cls yX12_allow yX12_allow ∈ vT := ⟨tb5 154 (by decide +kernel) (by decide +kernel), tb5 155 (by decide +kernel) (by decide +kernel)⟩
theorem mf_X12_error : MF yX12_error cX12_error 3 (some .long) 2 := ⟨tb5 160 (by decide +kernel) (by decide +kernel), tb1 6 (by decide +kernel) (by decide +kernel), by decide +kernel, by decide +kernel, by decide, by decide +kernel⟩
theorem iv_X12_error : Cond.instanceMethod yX12_error ∈ vT ∧ Cond.selects yX12_error.cls yX12_error yX12_error ∈ vT := ⟨tb5 158 (by decide +kernel) (by decide +kernel), tb5 159 (by decide +kernel) (by decide +kernel)⟩
theorem mf_X12_errorAt : MF yX12_errorAt cX12_errorAt 7 (some .long) 2 := ⟨tb5 164 (by decide +kernel) (by decide +kernel), tb1 6 (by decide +kernel) (by decide +kernel), by decide +kernel, by decide +kernel, by decide, by decide +kernel⟩
theorem iv_X12_errorAt : Cond.instanceMethod yX12_errorAt ∈ vT ∧ Cond.selects yX12_errorAt.cls yX12_errorAt yX12_errorAt ∈ vT := ⟨tb5 163 (by decide +kernel) (by decide +kernel), tbp 41 (by decide +kernel) (by decide +kernel)⟩
theorem mf_X12_carried : MF yX12_carried cX12_carried 7 (some .long) 2 := ⟨tb5 168 (by decide +kernel) (by decide +kernel), tb1 6 (by decide +kernel) (by decide +kernel), by decide +kernel, by decide +kernel, by decide, by decide +kernel⟩
theorem iv_X12_carried : Cond.instanceMethod yX12_carried ∈ vT ∧ Cond.selects yX12_carried.cls yX12_carried yX12_carried ∈ vT := ⟨tb5 167 (by decide +kernel) (by decide +kernel), tbp 42 (by decide +kernel) (by decide +kernel)⟩
theorem mf_X12_points : MF yX12_points cX12_points 3 (some .int) 2 := ⟨tb5 173 (by decide +kernel) (by decide +kernel), tb1 6 (by decide +kernel) (by decide +kernel), by decide +kernel, by decide +kernel, by decide, by decide +kernel⟩
theorem iv_X12_points : Cond.instanceMethod yX12_points ∈ vT ∧ Cond.selects yX12_points.cls yX12_points yX12_points ∈ vT := ⟨tb5 171 (by decide +kernel) (by decide +kernel), tb5 172 (by decide +kernel) (by decide +kernel)⟩
theorem mf_X12_pointsAt : MF yX12_pointsAt cX12_pointsAt 7 (some .int) 2 := ⟨tb5 177 (by decide +kernel) (by decide +kernel), tb1 6 (by decide +kernel) (by decide +kernel), by decide +kernel, by decide +kernel, by decide, by decide +kernel⟩
theorem iv_X12_pointsAt : Cond.instanceMethod yX12_pointsAt ∈ vT ∧ Cond.selects yX12_pointsAt.cls yX12_pointsAt yX12_pointsAt ∈ vT := ⟨tb5 176 (by decide +kernel) (by decide +kernel), tbp 43 (by decide +kernel) (by decide +kernel)⟩
theorem mf_X12_isOutOfOrder : MF yX12_isOutOfOrder cX12_isOutOfOrder 7 (some .boolean) 2 := ⟨tb5 181 (by decide +kernel) (by decide +kernel), tb1 6 (by decide +kernel) (by decide +kernel), by decide +kernel, by decide +kernel, by decide, by decide +kernel⟩
theorem iv_X12_isOutOfOrder : Cond.instanceMethod yX12_isOutOfOrder ∈ vT ∧ Cond.selects yX12_isOutOfOrder.cls yX12_isOutOfOrder yX12_isOutOfOrder ∈ vT := ⟨tb5 180 (by decide +kernel) (by decide +kernel), tbp 44 (by decide +kernel) (by decide +kernel)⟩
theorem mf_X12_result : MF yX12_result cX12_result 6 (some .int) 2 := ⟨tb5 188 (by decide +kernel) (by decide +kernel), tb1 6 (by decide +kernel) (by decide +kernel), by decide +kernel, by decide +kernel, by decide, by decide +kernel⟩
theorem iv_X12_result : Cond.instanceMethod yX12_result ∈ vT ∧ Cond.selects yX12_result.cls yX12_result yX12_result ∈ vT := ⟨tb5 186 (by decide +kernel) (by decide +kernel), tb5 187 (by decide +kernel) (by decide +kernel)⟩
theorem mf_X12_totalOf : MF yX12_totalOf cX12_totalOf 4 (some .int) 1 := ⟨tb5 192 (by decide +kernel) (by decide +kernel), tb1 6 (by decide +kernel) (by decide +kernel), by decide +kernel, by decide +kernel, by decide, by decide +kernel⟩
theorem iv_X12_totalOf : Cond.instanceMethod yX12_totalOf ∈ vT ∧ Cond.selects yX12_totalOf.cls yX12_totalOf yX12_totalOf ∈ vT := ⟨tb5 191 (by decide +kernel) (by decide +kernel), tbp 45 (by decide +kernel) (by decide +kernel)⟩
theorem mf_X12_isBetter : MF yX12_isBetter cX12_isBetter 8 (some .boolean) 2 := ⟨tb5 196 (by decide +kernel) (by decide +kernel), tb1 6 (by decide +kernel) (by decide +kernel), by decide +kernel, by decide +kernel, by decide, by decide +kernel⟩
theorem iv_X12_isBetter : Cond.instanceMethod yX12_isBetter ∈ vT ∧ Cond.selects yX12_isBetter.cls yX12_isBetter yX12_isBetter ∈ vT := ⟨tb5 195 (by decide +kernel) (by decide +kernel), tbp 46 (by decide +kernel) (by decide +kernel)⟩
theorem mf_X12_tell : MF yX12_tell cX12_tell 2 (some .int) 1 := ⟨tb5 200 (by decide +kernel) (by decide +kernel), tb1 6 (by decide +kernel) (by decide +kernel), by decide +kernel, by decide +kernel, by decide, by decide +kernel⟩
theorem iv_X12_tell : Cond.instanceMethod yX12_tell ∈ vT ∧ Cond.selects yX12_tell.cls yX12_tell yX12_tell ∈ vT := ⟨tb5 198 (by decide +kernel) (by decide +kernel), tb5 199 (by decide +kernel) (by decide +kernel)⟩
theorem mf_X12_traced : MF yX12_traced cX12_traced 2 (none) 1 := ⟨tb5 204 (by decide +kernel) (by decide +kernel), tb1 6 (by decide +kernel) (by decide +kernel), by decide +kernel, by decide +kernel, by decide, by decide +kernel⟩
theorem iv_X12_traced : Cond.instanceMethod yX12_traced ∈ vT ∧ Cond.selects yX12_traced.cls yX12_traced yX12_traced ∈ vT := ⟨tb5 203 (by decide +kernel) (by decide +kernel), tbp 47 (by decide +kernel) (by decide +kernel)⟩
theorem mf_X12_greet : MF yX12_greet cX12_greet 2 (some .int) 1 := ⟨tb5 208 (by decide +kernel) (by decide +kernel), tb1 6 (by decide +kernel) (by decide +kernel), by decide +kernel, by decide +kernel, by decide, by decide +kernel⟩
theorem iv_X12_greet : Cond.instanceMethod yX12_greet ∈ vT ∧ Cond.selects yX12_greet.cls yX12_greet yX12_greet ∈ vT := ⟨tb5 206 (by decide +kernel) (by decide +kernel), tb5 207 (by decide +kernel) (by decide +kernel)⟩
theorem mf_X12_as : MF yX12_as cX12_as 3 (some .int) 2 := ⟨tb5 212 (by decide +kernel) (by decide +kernel), tb1 6 (by decide +kernel) (by decide +kernel), by decide +kernel, by decide +kernel, by decide, by decide +kernel⟩
theorem iv_X12_as : Cond.instanceMethod yX12_as ∈ vT ∧ Cond.selects yX12_as.cls yX12_as yX12_as ∈ vT := ⟨tb5 210 (by decide +kernel) (by decide +kernel), tb5 211 (by decide +kernel) (by decide +kernel)⟩
theorem mf_X12_trace : MF yX12_trace cX12_trace 1 (some .int) 0 := ⟨tb5 216 (by decide +kernel) (by decide +kernel), tb1 6 (by decide +kernel) (by decide +kernel), by decide +kernel, by decide +kernel, by decide, by decide +kernel⟩
theorem iv_X12_trace : Cond.instanceMethod yX12_trace ∈ vT ∧ Cond.selects yX12_trace.cls yX12_trace yX12_trace ∈ vT := ⟨tb5 214 (by decide +kernel) (by decide +kernel), tb5 215 (by decide +kernel) (by decide +kernel)⟩
theorem mf_X12_fault : MF yX12_fault cX12_fault 1 (some .int) 0 := ⟨tb5 220 (by decide +kernel) (by decide +kernel), tb1 6 (by decide +kernel) (by decide +kernel), by decide +kernel, by decide +kernel, by decide, by decide +kernel⟩
theorem iv_X12_fault : Cond.instanceMethod yX12_fault ∈ vT ∧ Cond.selects yX12_fault.cls yX12_fault yX12_fault ∈ vT := ⟨tb5 218 (by decide +kernel) (by decide +kernel), tb5 219 (by decide +kernel) (by decide +kernel)⟩
theorem mf_X12_told : MF yX12_told cX12_told 2 (some .int) 1 := ⟨tb5 224 (by decide +kernel) (by decide +kernel), tb1 6 (by decide +kernel) (by decide +kernel), by decide +kernel, by decide +kernel, by decide, by decide +kernel⟩
theorem iv_X12_told : Cond.instanceMethod yX12_told ∈ vT ∧ Cond.selects yX12_told.cls yX12_told yX12_told ∈ vT := ⟨tb5 222 (by decide +kernel) (by decide +kernel), tb5 223 (by decide +kernel) (by decide +kernel)⟩
theorem ml_L_9 : Cond.methodLink RL 9 yX11_init ∈ vT := tb1 18 (by decide +kernel) (by decide +kernel)
theorem ml_L_13 : Cond.methodLink RL 13 yX11_road ∈ vT := tb1 196 (by decide +kernel) (by decide +kernel)
theorem ml_X11_57 : Cond.methodLink RX11 57 yX11_isSpot ∈ vT := tb1 200 (by decide +kernel) (by decide +kernel)
theorem ml_X11_61 : Cond.methodLink RX11 61 yX11_isWithin ∈ vT := tb1 203 (by decide +kernel) (by decide +kernel)
theorem ml_X11_69 : Cond.methodLink RX11 69 yX11_newRoad ∈ vT := tb1 206 (by decide +kernel) (by decide +kernel)
theorem ml_X11_297 : Cond.methodLink RX11 297 yX6_init ∈ vT := tb1 211 (by decide +kernel) (by decide +kernel)
theorem ml_X6_3 : Cond.methodLink RX6 3 yX7_init ∈ vT := tb1 214 (by decide +kernel) (by decide +kernel)
theorem ml_X11_300 : Cond.methodLink RX11 300 yX3_init ∈ vT := tb2 4 (by decide +kernel) (by decide +kernel)
theorem ml_X3_1 : Cond.methodLink RX3 1 yX7_init ∈ vT := tb2 7 (by decide +kernel) (by decide +kernel)
theorem ml_X11_301 : Cond.methodLink RX11 301 yX7_init ∈ vT := tb2 19 (by decide +kernel) (by decide +kernel)
theorem ml_L_18 : Cond.methodLink RL 18 yX11_shut ∈ vT := tb2 26 (by decide +kernel) (by decide +kernel)
theorem ml_X11_73 : Cond.methodLink RX11 73 yX11_roadOf ∈ vT := tb2 30 (by decide +kernel) (by decide +kernel)
theorem ml_L_23 : Cond.methodLink RL 23 yX11_wet ∈ vT := tb2 34 (by decide +kernel) (by decide +kernel)
theorem ml_X11_89 : Cond.methodLink RX11 89 yX11_answerOfFault ∈ vT := tb2 38 (by decide +kernel) (by decide +kernel)
theorem ml_L_27 : Cond.methodLink RL 27 yX11_about ∈ vT := tb2 42 (by decide +kernel) (by decide +kernel)
theorem ml_X11_105 : Cond.methodLink RX11 105 yX7_isOpen ∈ vT := tb2 46 (by decide +kernel) (by decide +kernel)
theorem ml_X3_13 : Cond.methodLink RX3 13 yX7_isOpen ∈ vT := tb2 53 (by decide +kernel) (by decide +kernel)
theorem ml_X11_109 : Cond.methodLink RX11 109 yX10_placeOfRoad ∈ vT := tb2 56 (by decide +kernel) (by decide +kernel)
theorem ml_L_32 : Cond.methodLink RL 32 yX11_book ∈ vT := tb2 60 (by decide +kernel) (by decide +kernel)
theorem ml_X11_112 : Cond.methodLink RX11 112 yX11_sheetOf ∈ vT := tb2 64 (by decide +kernel) (by decide +kernel)
theorem ml_X11_116 : Cond.methodLink RX11 116 yX11_isLane ∈ vT := tb2 68 (by decide +kernel) (by decide +kernel)
theorem ml_X11_119 : Cond.methodLink RX11 119 yX9_faultOfCells ∈ vT := tb2 71 (by decide +kernel) (by decide +kernel)
theorem ml_X9_26 : Cond.methodLink RX9 26 yX9_holds ∈ vT := tb2 75 (by decide +kernel) (by decide +kernel)
theorem ml_X11_127 : Cond.methodLink RX11 127 yX11_areBookSpots ∈ vT := tb2 79 (by decide +kernel) (by decide +kernel)
theorem ml_X11_131 : Cond.methodLink RX11 131 yX0_become ∈ vT := tb2 82 (by decide +kernel) (by decide +kernel)
theorem ml_L_36 : Cond.methodLink RL 36 yX11_ways ∈ vT := tb2 86 (by decide +kernel) (by decide +kernel)
theorem ml_X11_138 : Cond.methodLink RX11 138 yX11_searchTheMap ∈ vT := tb2 90 (by decide +kernel) (by decide +kernel)
theorem ml_X11_303 : Cond.methodLink RX11 303 yX8_begin ∈ vT := tb2 94 (by decide +kernel) (by decide +kernel)
theorem ml_X8_48 : Cond.methodLink RX8 48 yX8_addExit ∈ vT := tb2 98 (by decide +kernel) (by decide +kernel)
theorem ml_X8_52 : Cond.methodLink RX8 52 yX7_endFrom ∈ vT := tb2 102 (by decide +kernel) (by decide +kernel)
theorem ml_X6_15 : Cond.methodLink RX6 15 yX7_endFrom ∈ vT := tb2 110 (by decide +kernel) (by decide +kernel)
theorem ml_X7_28 : Cond.methodLink RX7 28 yX7_isOpen ∈ vT := tb2 112 (by decide +kernel) (by decide +kernel)
theorem ml_X11_309 : Cond.methodLink RX11 309 yX11_goOn ∈ vT := tb2 113 (by decide +kernel) (by decide +kernel)
theorem ml_X11_322 : Cond.methodLink RX11 322 yX8_isInRow ∈ vT := tb2 116 (by decide +kernel) (by decide +kernel)
theorem ml_X11_325 : Cond.methodLink RX11 325 yX8_isTooLong ∈ vT := tb2 120 (by decide +kernel) (by decide +kernel)
theorem ml_X11_336 : Cond.methodLink RX11 336 yX0_metAfter ∈ vT := tb2 125 (by decide +kernel) (by decide +kernel)
theorem ml_X11_339 : Cond.methodLink RX11 339 yX0_isPassed ∈ vT := tb2 129 (by decide +kernel) (by decide +kernel)
theorem ml_X11_342 : Cond.methodLink RX11 342 yX8_found ∈ vT := tb2 133 (by decide +kernel) (by decide +kernel)
theorem ml_L_41 : Cond.methodLink RL 41 yX11_lay ∈ vT := tb2 137 (by decide +kernel) (by decide +kernel)
theorem ml_X11_147 : Cond.methodLink RX11 147 yX11_layTheBest ∈ vT := tb2 141 (by decide +kernel) (by decide +kernel)
theorem ml_X11_348 : Cond.methodLink RX11 348 yX10_begin ∈ vT := tb2 145 (by decide +kernel) (by decide +kernel)
theorem ml_X11_356 : Cond.methodLink RX11 356 yX10_addRoad ∈ vT := tb2 149 (by decide +kernel) (by decide +kernel)
theorem ml_X11_359 : Cond.methodLink RX11 359 yX1_forgetTheWay ∈ vT := tb2 153 (by decide +kernel) (by decide +kernel)
theorem ml_L_45 : Cond.methodLink RL 45 yX11_laid ∈ vT := tb2 160 (by decide +kernel) (by decide +kernel)
theorem ml_L_50 : Cond.methodLink RL 50 yX11_proof ∈ vT := tb2 164 (by decide +kernel) (by decide +kernel)
theorem ml_X11_156 : Cond.methodLink RX11 156 yX11_lostByFault ∈ vT := tb2 169 (by decide +kernel) (by decide +kernel)
theorem ml_X11_160 : Cond.methodLink RX11 160 yX11_proofOfRow ∈ vT := tb2 173 (by decide +kernel) (by decide +kernel)
theorem ml_X11_362 : Cond.methodLink RX11 362 yX7_endFrom ∈ vT := tb2 177 (by decide +kernel) (by decide +kernel)
theorem ml_L_55 : Cond.methodLink RL 55 yX11_speed ∈ vT := tb2 179 (by decide +kernel) (by decide +kernel)
theorem ml_X11_170 : Cond.methodLink RX11 170 yX10_addSpeed ∈ vT := tb2 183 (by decide +kernel) (by decide +kernel)
theorem ml_L_59 : Cond.methodLink RL 59 yX11_due ∈ vT := tb2 187 (by decide +kernel) (by decide +kernel)
theorem ml_X11_174 : Cond.methodLink RX11 174 yX10_hasFirstSpeed ∈ vT := tb2 191 (by decide +kernel) (by decide +kernel)
theorem ml_X10_34 : Cond.methodLink RX10 34 yX10_speedFrom ∈ vT := tb2 195 (by decide +kernel) (by decide +kernel)
theorem ml_X11_177 : Cond.methodLink RX11 177 yX10_dueAt ∈ vT := tb2 199 (by decide +kernel) (by decide +kernel)
theorem ml_X10_38 : Cond.methodLink RX10 38 yX10_endOfStretch ∈ vT := tb2 203 (by decide +kernel) (by decide +kernel)
theorem ml_L_64 : Cond.methodLink RL 64 yX11_roadAt ∈ vT := tb2 208 (by decide +kernel) (by decide +kernel)
theorem ml_X11_180 : Cond.methodLink RX11 180 yX10_roadUnder ∈ vT := tb2 212 (by decide +kernel) (by decide +kernel)
theorem ml_L_68 : Cond.methodLink RL 68 yX11_control ∈ vT := tb2 216 (by decide +kernel) (by decide +kernel)
theorem ml_X11_183 : Cond.methodLink RX11 183 yX11_isControlAt ∈ vT := tb2 220 (by decide +kernel) (by decide +kernel)
theorem ml_X11_189 : Cond.methodLink RX11 189 yX2_init ∈ vT := tb2 225 (by decide +kernel) (by decide +kernel)
theorem ml_L_72 : Cond.methodLink RL 72 yX11_watch ∈ vT := tb3 9 (by decide +kernel) (by decide +kernel)
theorem ml_X11_192 : Cond.methodLink RX11 192 yX11_controlOf ∈ vT := tb3 13 (by decide +kernel) (by decide +kernel)
theorem ml_X11_196 : Cond.methodLink RX11 196 yX11_isSpanOfTime ∈ vT := tb3 17 (by decide +kernel) (by decide +kernel)
theorem ml_X11_204 : Cond.methodLink RX11 204 yX11_isTime ∈ vT := tb3 20 (by decide +kernel) (by decide +kernel)
theorem ml_X11_200 : Cond.methodLink RX11 200 yX2_check ∈ vT := tb3 24 (by decide +kernel) (by decide +kernel)
theorem ml_L_77 : Cond.methodLink RL 77 yX11_right ∈ vT := tb3 28 (by decide +kernel) (by decide +kernel)
theorem ml_X11_207 : Cond.methodLink RX11 207 yX2_putRight ∈ vT := tb3 32 (by decide +kernel) (by decide +kernel)
theorem ml_L_82 : Cond.methodLink RL 82 yX11_strike ∈ vT := tb3 36 (by decide +kernel) (by decide +kernel)
theorem ml_L_86 : Cond.methodLink RL 86 yX11_car ∈ vT := tb3 40 (by decide +kernel) (by decide +kernel)
theorem ml_X11_217 : Cond.methodLink RX11 217 yX11_newCar ∈ vT := tb3 45 (by decide +kernel) (by decide +kernel)
theorem ml_X11_372 : Cond.methodLink RX11 372 yX5_init ∈ vT := tb3 50 (by decide +kernel) (by decide +kernel)
theorem ml_X5_1 : Cond.methodLink RX5 1 yX1_init ∈ vT := tb3 53 (by decide +kernel) (by decide +kernel)
theorem ml_X11_376 : Cond.methodLink RX11 376 yX4_init ∈ vT := tb3 83 (by decide +kernel) (by decide +kernel)
theorem ml_X4_3 : Cond.methodLink RX4 3 yX5_init ∈ vT := tb3 86 (by decide +kernel) (by decide +kernel)
theorem ml_X11_377 : Cond.methodLink RX11 377 yX1_init ∈ vT := tb3 95 (by decide +kernel) (by decide +kernel)
theorem ml_L_90 : Cond.methodLink RL 90 yX11_clock ∈ vT := tb3 103 (by decide +kernel) (by decide +kernel)
theorem ml_X11_221 : Cond.methodLink RX11 221 yX11_carOf ∈ vT := tb3 107 (by decide +kernel) (by decide +kernel)
theorem ml_X11_225 : Cond.methodLink RX11 225 yX1_isClockedAt ∈ vT := tb3 111 (by decide +kernel) (by decide +kernel)
theorem ml_X11_228 : Cond.methodLink RX11 228 yX1_arrive ∈ vT := tb3 118 (by decide +kernel) (by decide +kernel)
theorem ml_L_95 : Cond.methodLink RL 95 yX11_allow ∈ vT := tb3 125 (by decide +kernel) (by decide +kernel)
theorem ml_L_99 : Cond.methodLink RL 99 yX11_error ∈ vT := tb3 129 (by decide +kernel) (by decide +kernel)
theorem ml_X11_234 : Cond.methodLink RX11 234 yX11_errorOf ∈ vT := tb3 133 (by decide +kernel) (by decide +kernel)
theorem ml_X11_384 : Cond.methodLink RX11 384 yX11_carriedTo ∈ vT := tb3 137 (by decide +kernel) (by decide +kernel)
theorem ml_L_103 : Cond.methodLink RL 103 yX11_points ∈ vT := tb3 147 (by decide +kernel) (by decide +kernel)
theorem ml_X11_238 : Cond.methodLink RX11 238 yX11_pointsOf ∈ vT := tb3 151 (by decide +kernel) (by decide +kernel)
theorem ml_X11_396 : Cond.methodLink RX11 396 yX11_isOutOfOrder ∈ vT := tb3 155 (by decide +kernel) (by decide +kernel)
theorem ml_X11_399 : Cond.methodLink RX11 399 yX11_pointsForError ∈ vT := tb3 159 (by decide +kernel) (by decide +kernel)
theorem ml_X11_403 : Cond.methodLink RX11 403 yX1_share ∈ vT := tb3 172 (by decide +kernel) (by decide +kernel)
theorem ml_X4_9 : Cond.methodLink RX4 9 yX5_share ∈ vT := tb3 179 (by decide +kernel) (by decide +kernel)
theorem ml_L_107 : Cond.methodLink RL 107 yX11_result ∈ vT := tb3 185 (by decide +kernel) (by decide +kernel)
theorem ml_X11_242 : Cond.methodLink RX11 242 yX11_totalOf ∈ vT := tb3 189 (by decide +kernel) (by decide +kernel)
theorem ml_X11_246 : Cond.methodLink RX11 246 yX11_rankOf ∈ vT := tb3 193 (by decide +kernel) (by decide +kernel)
theorem ml_X11_423 : Cond.methodLink RX11 423 yX11_isBetterOfTie ∈ vT := tb3 197 (by decide +kernel) (by decide +kernel)
theorem ml_X11_249 : Cond.methodLink RX11 249 yX11_missedBy ∈ vT := tb3 201 (by decide +kernel) (by decide +kernel)
theorem ml_X11_252 : Cond.methodLink RX11 252 yX11_outOfOrderBy ∈ vT := tb3 205 (by decide +kernel) (by decide +kernel)
theorem ml_L_111 : Cond.methodLink RL 111 yX11_sheet ∈ vT := tb3 209 (by decide +kernel) (by decide +kernel)
theorem ml_X11_255 : Cond.methodLink RX11 255 yX9_begin ∈ vT := tb3 213 (by decide +kernel) (by decide +kernel)
theorem ml_L_115 : Cond.methodLink RL 115 yX11_lose ∈ vT := tb3 217 (by decide +kernel) (by decide +kernel)
theorem ml_L_119 : Cond.methodLink RL 119 yX11_put ∈ vT := tb3 221 (by decide +kernel) (by decide +kernel)
theorem ml_X11_264 : Cond.methodLink RX11 264 yX11_cutToLane ∈ vT := tb3 225 (by decide +kernel) (by decide +kernel)
theorem ml_L_123 : Cond.methodLink RL 123 yX11_cell ∈ vT := tb3 228 (by decide +kernel) (by decide +kernel)
theorem ml_L_128 : Cond.methodLink RL 128 yX11_copy ∈ vT := tb3 232 (by decide +kernel) (by decide +kernel)
theorem ml_X11_268 : Cond.methodLink RX11 268 yX9_holds ∈ vT := tb3 236 (by decide +kernel) (by decide +kernel)
theorem ml_L_132 : Cond.methodLink RL 132 yX11_tell ∈ vT := tb4 0 (by decide +kernel) (by decide +kernel)
theorem ml_X11_277 : Cond.methodLink RX11 277 yX7_telling ∈ vT := tb4 4 (by decide +kernel) (by decide +kernel)
theorem ml_X3_23 : Cond.methodLink RX3 23 yX7_telling ∈ vT := tb4 15 (by decide +kernel) (by decide +kernel)
theorem ml_X6_23 : Cond.methodLink RX6 23 yX7_telling ∈ vT := tb4 20 (by decide +kernel) (by decide +kernel)
theorem ml_L_136 : Cond.methodLink RL 136 yX11_greet ∈ vT := tb4 23 (by decide +kernel) (by decide +kernel)
theorem ml_X11_281 : Cond.methodLink RX11 281 yX1_greeting ∈ vT := tb4 27 (by decide +kernel) (by decide +kernel)
theorem ml_X4_23 : Cond.methodLink RX4 23 yX5_greeting ∈ vT := tb4 35 (by decide +kernel) (by decide +kernel)
theorem ml_L_140 : Cond.methodLink RL 140 yX11_as ∈ vT := tb4 42 (by decide +kernel) (by decide +kernel)
theorem ml_X11_284 : Cond.methodLink RX11 284 yX11_isOfClass ∈ vT := tb4 46 (by decide +kernel) (by decide +kernel)
theorem ml_L_144 : Cond.methodLink RL 144 yX11_trace ∈ vT := tb4 49 (by decide +kernel) (by decide +kernel)
theorem ml_L_148 : Cond.methodLink RL 148 yX11_fault ∈ vT := tb4 53 (by decide +kernel) (by decide +kernel)
theorem ml_L_152 : Cond.methodLink RL 152 yX11_told ∈ vT := tb4 57 (by decide +kernel) (by decide +kernel)
theorem ml_L_12 : Cond.methodLink RL 12 yX12_init ∈ vT := tb4 63 (by decide +kernel) (by decide +kernel)
theorem ml_L_17 : Cond.methodLink RL 17 yX12_road ∈ vT := tb4 198 (by decide +kernel) (by decide +kernel)
theorem ml_X12_117 : Cond.methodLink RX12 117 yX12_isSpot ∈ vT := tb4 202 (by decide +kernel) (by decide +kernel)
theorem ml_X12_111 : Cond.methodLink RX12 111 yX12_in ∈ vT := tb4 206 (by decide +kernel) (by decide +kernel)
theorem ml_L_22 : Cond.methodLink RL 22 yX12_shut ∈ vT := tb4 211 (by decide +kernel) (by decide +kernel)
theorem ml_X12_125 : Cond.methodLink RX12 125 yX12_noRoad ∈ vT := tb4 215 (by decide +kernel) (by decide +kernel)
theorem ml_L_26 : Cond.methodLink RL 26 yX12_wet ∈ vT := tb4 219 (by decide +kernel) (by decide +kernel)
theorem ml_X12_128 : Cond.methodLink RX12 128 yX12_refused ∈ vT := tb4 223 (by decide +kernel) (by decide +kernel)
theorem ml_X12_132 : Cond.methodLink RX12 132 yX12_failed ∈ vT := tb4 227 (by decide +kernel) (by decide +kernel)
theorem ml_L_31 : Cond.methodLink RL 31 yX12_about ∈ vT := tb4 231 (by decide +kernel) (by decide +kernel)
theorem ml_L_114 : Cond.methodLink RL 114 yX12_sheet ∈ vT := tb4 235 (by decide +kernel) (by decide +kernel)
theorem ml_X12_137 : Cond.methodLink RX12 137 yX12_noSheet ∈ vT := tb4 239 (by decide +kernel) (by decide +kernel)
theorem ml_L_118 : Cond.methodLink RL 118 yX12_lose ∈ vT := tb5 3 (by decide +kernel) (by decide +kernel)
theorem ml_L_122 : Cond.methodLink RL 122 yX12_put ∈ vT := tb5 7 (by decide +kernel) (by decide +kernel)
theorem ml_X12_140 : Cond.methodLink RX12 140 yX12_noCell ∈ vT := tb5 11 (by decide +kernel) (by decide +kernel)
theorem ml_L_127 : Cond.methodLink RL 127 yX12_cell ∈ vT := tb5 15 (by decide +kernel) (by decide +kernel)
theorem ml_X12_104 : Cond.methodLink RX12 104 yX12_lost ∈ vT := tb5 19 (by decide +kernel) (by decide +kernel)
theorem ml_X12_144 : Cond.methodLink RX12 144 yX12_failedLong ∈ vT := tb5 23 (by decide +kernel) (by decide +kernel)
theorem ml_L_131 : Cond.methodLink RL 131 yX12_copy ∈ vT := tb5 27 (by decide +kernel) (by decide +kernel)
theorem ml_X12_148 : Cond.methodLink RX12 148 yX12_isBeyond ∈ vT := tb5 31 (by decide +kernel) (by decide +kernel)
theorem ml_L_35 : Cond.methodLink RL 35 yX12_book ∈ vT := tb5 34 (by decide +kernel) (by decide +kernel)
theorem ml_X12_154 : Cond.methodLink RX12 154 yX12_faultOf ∈ vT := tb5 38 (by decide +kernel) (by decide +kernel)
theorem ml_X12_158 : Cond.methodLink RX12 158 yX12_isBook ∈ vT := tb5 42 (by decide +kernel) (by decide +kernel)
theorem ml_L_40 : Cond.methodLink RL 40 yX12_ways ∈ vT := tb5 47 (by decide +kernel) (by decide +kernel)
theorem ml_X12_189 : Cond.methodLink RX12 189 yX12_search ∈ vT := tb5 51 (by decide +kernel) (by decide +kernel)
theorem ml_X12_179 : Cond.methodLink RX12 179 yX12_isIn ∈ vT := tb5 55 (by decide +kernel) (by decide +kernel)
theorem ml_X12_182 : Cond.methodLink RX12 182 yX12_leads ∈ vT := tb5 59 (by decide +kernel) (by decide +kernel)
theorem ml_X12_186 : Cond.methodLink RX12 186 yX12_judge ∈ vT := tb5 64 (by decide +kernel) (by decide +kernel)
theorem ml_L_44 : Cond.methodLink RL 44 yX12_lay ∈ vT := tb5 68 (by decide +kernel) (by decide +kernel)
theorem ml_L_49 : Cond.methodLink RL 49 yX12_laid ∈ vT := tb5 72 (by decide +kernel) (by decide +kernel)
theorem ml_L_54 : Cond.methodLink RL 54 yX12_proof ∈ vT := tb5 76 (by decide +kernel) (by decide +kernel)
theorem ml_X12_212 : Cond.methodLink RX12 212 yX12_proved ∈ vT := tb5 80 (by decide +kernel) (by decide +kernel)
theorem ml_X12_205 : Cond.methodLink RX12 205 yX12_wasAhead ∈ vT := tb5 84 (by decide +kernel) (by decide +kernel)
theorem ml_L_58 : Cond.methodLink RL 58 yX12_speed ∈ vT := tb5 90 (by decide +kernel) (by decide +kernel)
theorem ml_L_63 : Cond.methodLink RL 63 yX12_due ∈ vT := tb5 95 (by decide +kernel) (by decide +kernel)
theorem ml_X12_220 : Cond.methodLink RX12 220 yX12_hasDue ∈ vT := tb5 99 (by decide +kernel) (by decide +kernel)
theorem ml_X12_223 : Cond.methodLink RX12 223 yX12_dueAt ∈ vT := tb5 103 (by decide +kernel) (by decide +kernel)
theorem ml_L_67 : Cond.methodLink RL 67 yX12_roadAt ∈ vT := tb5 108 (by decide +kernel) (by decide +kernel)
theorem ml_L_71 : Cond.methodLink RL 71 yX12_control ∈ vT := tb5 112 (by decide +kernel) (by decide +kernel)
theorem ml_L_76 : Cond.methodLink RL 76 yX12_watch ∈ vT := tb5 116 (by decide +kernel) (by decide +kernel)
theorem ml_X12_228 : Cond.methodLink RX12 228 yX12_noControl ∈ vT := tb5 120 (by decide +kernel) (by decide +kernel)
theorem ml_X12_231 : Cond.methodLink RX12 231 yX12_isTime ∈ vT := tb5 124 (by decide +kernel) (by decide +kernel)
theorem ml_L_81 : Cond.methodLink RL 81 yX12_right ∈ vT := tb5 128 (by decide +kernel) (by decide +kernel)
theorem ml_X12_234 : Cond.methodLink RX12 234 yX12_rightAt ∈ vT := tb5 132 (by decide +kernel) (by decide +kernel)
theorem ml_L_85 : Cond.methodLink RL 85 yX12_strike ∈ vT := tb5 136 (by decide +kernel) (by decide +kernel)
theorem ml_L_89 : Cond.methodLink RL 89 yX12_car ∈ vT := tb5 140 (by decide +kernel) (by decide +kernel)
theorem ml_L_94 : Cond.methodLink RL 94 yX12_clock ∈ vT := tb5 145 (by decide +kernel) (by decide +kernel)
theorem ml_X12_243 : Cond.methodLink RX12 243 yX12_noCar ∈ vT := tb5 149 (by decide +kernel) (by decide +kernel)
theorem ml_L_98 : Cond.methodLink RL 98 yX12_allow ∈ vT := tb5 153 (by decide +kernel) (by decide +kernel)
theorem ml_L_102 : Cond.methodLink RL 102 yX12_error ∈ vT := tb5 157 (by decide +kernel) (by decide +kernel)
theorem ml_X12_252 : Cond.methodLink RX12 252 yX12_errorAt ∈ vT := tb5 161 (by decide +kernel) (by decide +kernel)
theorem ml_X12_248 : Cond.methodLink RX12 248 yX12_carried ∈ vT := tb5 165 (by decide +kernel) (by decide +kernel)
theorem ml_L_106 : Cond.methodLink RL 106 yX12_points ∈ vT := tb5 170 (by decide +kernel) (by decide +kernel)
theorem ml_X12_265 : Cond.methodLink RX12 265 yX12_pointsAt ∈ vT := tb5 174 (by decide +kernel) (by decide +kernel)
theorem ml_X12_255 : Cond.methodLink RX12 255 yX12_isOutOfOrder ∈ vT := tb5 178 (by decide +kernel) (by decide +kernel)
theorem ml_L_110 : Cond.methodLink RL 110 yX12_result ∈ vT := tb5 185 (by decide +kernel) (by decide +kernel)
theorem ml_X12_268 : Cond.methodLink RX12 268 yX12_totalOf ∈ vT := tb5 189 (by decide +kernel) (by decide +kernel)
theorem ml_X12_271 : Cond.methodLink RX12 271 yX12_isBetter ∈ vT := tb5 193 (by decide +kernel) (by decide +kernel)
theorem ml_L_135 : Cond.methodLink RL 135 yX12_tell ∈ vT := tb5 197 (by decide +kernel) (by decide +kernel)
theorem ml_X12_277 : Cond.methodLink RX12 277 yX12_traced ∈ vT := tb5 201 (by decide +kernel) (by decide +kernel)
theorem ml_L_139 : Cond.methodLink RL 139 yX12_greet ∈ vT := tb5 205 (by decide +kernel) (by decide +kernel)
theorem ml_L_143 : Cond.methodLink RL 143 yX12_as ∈ vT := tb5 209 (by decide +kernel) (by decide +kernel)
theorem ml_L_147 : Cond.methodLink RL 147 yX12_trace ∈ vT := tb5 213 (by decide +kernel) (by decide +kernel)
theorem ml_L_151 : Cond.methodLink RL 151 yX12_fault ∈ vT := tb5 217 (by decide +kernel) (by decide +kernel)
theorem ml_L_155 : Cond.methodLink RL 155 yX12_told ∈ vT := tb5 221 (by decide +kernel) (by decide +kernel)
theorem mm_min : Cond.code Lib.Math.min.name Lib.Math.min.code 2 (some .int) ∈ vT := tb3 143 (by decide +kernel) (by decide +kernel)
theorem mms_min : Cond.static Lib.Math.min.name ∈ vT := tb3 142 (by decide +kernel) (by decide +kernel)
theorem mml_X11_393 : Cond.methodLink RX11 393 Lib.Math.min.name ∈ vT := tb3 141 (by decide +kernel) (by decide +kernel)
theorem mml_X4_13 : Cond.methodLink RX4 13 Lib.Math.min.name ∈ vT := tb3 182 (by decide +kernel) (by decide +kernel)
theorem mm_maxl : Cond.code Lib.MathLoose.max_long.x Lib.MathLoose.max_long.code 4 (some .long) ∈ vT := tb3 146 (by decide +kernel) (by decide +kernel)
theorem mms_maxl : Cond.static Lib.MathLoose.max_long.x ∈ vT := tb3 145 (by decide +kernel) (by decide +kernel)
theorem mml_X11_387 : Cond.methodLink RX11 387 Lib.MathLoose.max_long.x ∈ vT := tb3 144 (by decide +kernel) (by decide +kernel)
theorem mm_minl : Cond.code Lib.MathLoose.min_long.x Lib.MathLoose.min_long.code 4 (some .long) ∈ vT := tb3 171 (by decide +kernel) (by decide +kernel)
theorem mms_minl : Cond.static Lib.MathLoose.min_long.x ∈ vT := tb3 170 (by decide +kernel) (by decide +kernel)
theorem mml_X11_418 : Cond.methodLink RX11 418 Lib.MathLoose.min_long.x ∈ vT := tb3 169 (by decide +kernel) (by decide +kernel)
theorem mm_absl : Cond.code Lib.MathLoose.abs_long.x Lib.MathLoose.abs_long.code 2 (some .long) ∈ vT := tb3 164 (by decide +kernel) (by decide +kernel)
theorem mms_absl : Cond.static Lib.MathLoose.abs_long.x ∈ vT := tb3 163 (by decide +kernel) (by decide +kernel)
theorem mml_X11_406 : Cond.methodLink RX11 406 Lib.MathLoose.abs_long.x ∈ vT := tb3 162 (by decide +kernel) (by decide +kernel)
theorem mm_ini : Cond.initialized "java/lang/Math" ∈ vT := tb1 14 (by decide +kernel) (by decide +kernel)
theorem mo_i : Cond.instanceMethod Lib.objectInit ∈ vT := tb1 22 (by decide +kernel) (by decide +kernel)
theorem mo_c : Cond.code Lib.objectInit ⟨#[0xb1]⟩ 1 none ∈ vT := tb1 23 (by decide +kernel) (by decide +kernel)
theorem mo_X11 : Cond.methodLink RX11 3 Lib.objectInit ∈ vT := tb1 21 (by decide +kernel) (by decide +kernel)
theorem mo_X0 : Cond.methodLink RX0 3 Lib.objectInit ∈ vT := tb1 31 (by decide +kernel) (by decide +kernel)
theorem mo_X8 : Cond.methodLink RX8 3 Lib.objectInit ∈ vT := tb1 47 (by decide +kernel) (by decide +kernel)
theorem mo_X10 : Cond.methodLink RX10 3 Lib.objectInit ∈ vT := tb1 105 (by decide +kernel) (by decide +kernel)
theorem mo_X9 : Cond.methodLink RX9 3 Lib.objectInit ∈ vT := tb1 142 (by decide +kernel) (by decide +kernel)
theorem mo_X7 : Cond.methodLink RX7 3 Lib.objectInit ∈ vT := tb1 217 (by decide +kernel) (by decide +kernel)
theorem mo_X2 : Cond.methodLink RX2 1 Lib.objectInit ∈ vT := tb2 228 (by decide +kernel) (by decide +kernel)
theorem mo_X1 : Cond.methodLink RX1 3 Lib.objectInit ∈ vT := tb3 56 (by decide +kernel) (by decide +kernel)
theorem mo_X12 : Cond.methodLink RX12 1 Lib.objectInit ∈ vT := tb4 66 (by decide +kernel) (by decide +kernel)
theorem kl_L_7 : Cond.classLink RL 7 RX11 ∈ vT := tb1 16 (by decide +kernel) (by decide +kernel)
theorem kl_X11_11 : Cond.classLink RX11 11 RX7 ∈ vT := tb1 24 (by decide +kernel) (by decide +kernel)
theorem kl_X11_17 : Cond.classLink RX11 17 RX0 ∈ vT := tb1 26 (by decide +kernel) (by decide +kernel)
theorem kl_X11_24 : Cond.classLink RX11 24 RX8 ∈ vT := tb1 42 (by decide +kernel) (by decide +kernel)
theorem kl_X11_31 : Cond.classLink RX11 31 RX10 ∈ vT := tb1 100 (by decide +kernel) (by decide +kernel)
theorem kl_X11_38 : Cond.classLink RX11 38 RX2 ∈ vT := tb1 132 (by decide +kernel) (by decide +kernel)
theorem kl_X11_44 : Cond.classLink RX11 44 RX1 ∈ vT := tb1 134 (by decide +kernel) (by decide +kernel)
theorem kl_X11_50 : Cond.classLink RX11 50 RX9 ∈ vT := tb1 136 (by decide +kernel) (by decide +kernel)
theorem kl_X11_295 : Cond.classLink RX11 295 RX6 ∈ vT := tb1 209 (by decide +kernel) (by decide +kernel)
theorem kl_X11_84 : Cond.classLink RX11 84 RX3 ∈ vT := tb2 2 (by decide +kernel) (by decide +kernel)
theorem kl_X11_370 : Cond.classLink RX11 370 RX5 ∈ vT := tb3 48 (by decide +kernel) (by decide +kernel)
theorem kl_X11_374 : Cond.classLink RX11 374 RX4 ∈ vT := tb3 81 (by decide +kernel) (by decide +kernel)
theorem kl_L_10 : Cond.classLink RL 10 RX12 ∈ vT := tb4 61 (by decide +kernel) (by decide +kernel)
theorem kin_X11 : Cond.instantiable RX11 12 ∈ vT := tb1 17 (by decide +kernel) (by decide +kernel)
theorem kin_X0 : Cond.instantiable RX0 2 ∈ vT := tb1 27 (by decide +kernel) (by decide +kernel)
theorem kin_X8 : Cond.instantiable RX8 13 ∈ vT := tb1 43 (by decide +kernel) (by decide +kernel)
theorem kin_X10 : Cond.instantiable RX10 7 ∈ vT := tb1 101 (by decide +kernel) (by decide +kernel)
theorem kin_X9 : Cond.instantiable RX9 4 ∈ vT := tb1 138 (by decide +kernel) (by decide +kernel)
theorem kin_X6 : Cond.instantiable RX6 5 ∈ vT := tb1 210 (by decide +kernel) (by decide +kernel)
theorem kin_X3 : Cond.instantiable RX3 6 ∈ vT := tb2 3 (by decide +kernel) (by decide +kernel)
theorem kin_X7 : Cond.instantiable RX7 5 ∈ vT := tb2 18 (by decide +kernel) (by decide +kernel)
theorem kin_X2 : Cond.instantiable RX2 6 ∈ vT := tb2 224 (by decide +kernel) (by decide +kernel)
theorem kin_X5 : Cond.instantiable RX5 6 ∈ vT := tb3 49 (by decide +kernel) (by decide +kernel)
theorem kin_X4 : Cond.instantiable RX4 6 ∈ vT := tb3 82 (by decide +kernel) (by decide +kernel)
theorem kin_X1 : Cond.instantiable RX1 6 ∈ vT := tb3 94 (by decide +kernel) (by decide +kernel)
theorem kin_X12 : Cond.instantiable RX12 43 ∈ vT := tb4 62 (by decide +kernel) (by decide +kernel)
theorem kini_L : Cond.initialized RL ∈ vT := tb1 0 (by decide +kernel) (by decide +kernel)
theorem kini_X11 : Cond.initialized RX11 ∈ vT := tb1 1 (by decide +kernel) (by decide +kernel)
theorem kini_X0 : Cond.initialized RX0 ∈ vT := tb1 2 (by decide +kernel) (by decide +kernel)
theorem kini_X8 : Cond.initialized RX8 ∈ vT := tb1 3 (by decide +kernel) (by decide +kernel)
theorem kini_X10 : Cond.initialized RX10 ∈ vT := tb1 4 (by decide +kernel) (by decide +kernel)
theorem kini_X9 : Cond.initialized RX9 ∈ vT := tb1 5 (by decide +kernel) (by decide +kernel)
theorem kini_X12 : Cond.initialized RX12 ∈ vT := tb1 6 (by decide +kernel) (by decide +kernel)
theorem kini_X7 : Cond.initialized RX7 ∈ vT := tb1 7 (by decide +kernel) (by decide +kernel)
theorem kini_X6 : Cond.initialized RX6 ∈ vT := tb1 8 (by decide +kernel) (by decide +kernel)
theorem kini_X3 : Cond.initialized RX3 ∈ vT := tb1 9 (by decide +kernel) (by decide +kernel)
theorem kini_X2 : Cond.initialized RX2 ∈ vT := tb1 10 (by decide +kernel) (by decide +kernel)
theorem kini_X1 : Cond.initialized RX1 ∈ vT := tb1 11 (by decide +kernel) (by decide +kernel)
theorem kini_X5 : Cond.initialized RX5 ∈ vT := tb1 12 (by decide +kernel) (by decide +kernel)
theorem kini_X4 : Cond.initialized RX4 ∈ vT := tb1 13 (by decide +kernel) (by decide +kernel)
theorem kini_J9 : Cond.initialized RJ9 ∈ vT := tb1 14 (by decide +kernel) (by decide +kernel)
theorem kini_J10 : Cond.initialized RJ10 ∈ vT := tb1 15 (by decide +kernel) (by decide +kernel)
theorem kac_int : Cond.arrayClass .int ∈ vT := tb1 41 (by decide +kernel) (by decide +kernel)
theorem kac_boolean : Cond.arrayClass .boolean ∈ vT := tb4 197 (by decide +kernel) (by decide +kernel)
theorem kk_X11_328 : Cond.constant RX11 328 (60000) ∈ vT := tb2 124 (by decide +kernel) (by decide +kernel)
theorem kk_X11_294 : Cond.constant RX11 294 (1000000) ∈ vT := tb3 23 (by decide +kernel) (by decide +kernel)
theorem kk_X11_213 : Cond.constant RX11 213 (500000) ∈ vT := tb3 44 (by decide +kernel) (by decide +kernel)
theorem kk_X12_185 : Cond.constant RX12 185 (60000) ∈ vT := tb5 63 (by decide +kernel) (by decide +kernel)
theorem kk_X11_154 : Cond.constantLong RX11 154 (-9223372036854775808) ∈ vT := tb2 168 (by decide +kernel) (by decide +kernel)
theorem kk_X11_365 : Cond.constantLong RX11 365 (-100) ∈ vT := tb2 178 (by decide +kernel) (by decide +kernel)
theorem kk_X10_42 : Cond.constantLong RX10 42 (600) ∈ vT := tb2 207 (by decide +kernel) (by decide +kernel)
theorem kk_X11_410 : Cond.constantLong RX11 410 (9) ∈ vT := tb3 165 (by decide +kernel) (by decide +kernel)
theorem kk_X11_412 : Cond.constantLong RX11 412 (10) ∈ vT := tb3 166 (by decide +kernel) (by decide +kernel)
theorem kk_X11_414 : Cond.constantLong RX11 414 (2) ∈ vT := tb3 167 (by decide +kernel) (by decide +kernel)
theorem kk_X11_416 : Cond.constantLong RX11 416 (300) ∈ vT := tb3 168 (by decide +kernel) (by decide +kernel)
theorem kk_X12_115 : Cond.constantLong RX12 115 (9) ∈ vT := tb4 205 (by decide +kernel) (by decide +kernel)
theorem kk_X12_121 : Cond.constantLong RX12 121 (20000) ∈ vT := tb4 209 (by decide +kernel) (by decide +kernel)
theorem kk_X12_123 : Cond.constantLong RX12 123 (2) ∈ vT := tb4 210 (by decide +kernel) (by decide +kernel)
theorem kk_X12_135 : Cond.constantLong RX12 135 (3) ∈ vT := tb5 2 (by decide +kernel) (by decide +kernel)
theorem kk_X12_99 : Cond.constantLong RX12 99 (-9223372036854775808) ∈ vT := tb5 22 (by decide +kernel) (by decide +kernel)
theorem kk_X12_152 : Cond.constantLong RX12 152 (8) ∈ vT := tb5 46 (by decide +kernel) (by decide +kernel)
theorem kk_X12_208 : Cond.constantLong RX12 208 (-1) ∈ vT := tb5 88 (by decide +kernel) (by decide +kernel)
theorem kk_X12_210 : Cond.constantLong RX12 210 (-100) ∈ vT := tb5 89 (by decide +kernel) (by decide +kernel)
theorem kk_X12_216 : Cond.constantLong RX12 216 (3000) ∈ vT := tb5 94 (by decide +kernel) (by decide +kernel)
theorem kk_X12_218 : Cond.constantLong RX12 218 (600) ∈ vT := tb5 107 (by decide +kernel) (by decide +kernel)
theorem kk_X12_226 : Cond.constantLong RX12 226 (1000000) ∈ vT := tb5 127 (by decide +kernel) (by decide +kernel)
theorem kk_X12_241 : Cond.constantLong RX12 241 (500000) ∈ vT := tb5 144 (by decide +kernel) (by decide +kernel)
theorem kk_X12_246 : Cond.constantLong RX12 246 (1500) ∈ vT := tb5 169 (by decide +kernel) (by decide +kernel)
theorem kk_X12_259 : Cond.constantLong RX12 259 (10) ∈ vT := tb5 182 (by decide +kernel) (by decide +kernel)
theorem kk_X12_261 : Cond.constantLong RX12 261 (300) ∈ vT := tb5 183 (by decide +kernel) (by decide +kernel)
theorem kk_X12_263 : Cond.constantLong RX12 263 (50) ∈ vT := tb5 184 (by decide +kernel) (by decide +kernel)
theorem in_X0 : ∀ w ∈ u_ws RX0 TX0 2, w ∈ vT := by
  intro w hw
  obtain ⟨k, hk, rfl⟩ := List.mem_map.mp hw
  have hk := List.mem_range.mp hk
  match k, hk with
  | 0, _ => exact tb1 36 (by decide +kernel) (by decide +kernel)
  | 1, _ => exact tb1 38 (by decide +kernel) (by decide +kernel)
  | k + 2, hk => exact absurd hk (by omega)
theorem in_X1 : ∀ w ∈ u_ws RX1 TX1 6, w ∈ vT := by
  intro w hw
  obtain ⟨k, hk, rfl⟩ := List.mem_map.mp hw
  have hk := List.mem_range.mp hk
  match k, hk with
  | 0, _ => exact tb3 96 (by decide +kernel) (by decide +kernel)
  | 1, _ => exact tb3 97 (by decide +kernel) (by decide +kernel)
  | 2, _ => exact tb3 98 (by decide +kernel) (by decide +kernel)
  | 3, _ => exact tb3 99 (by decide +kernel) (by decide +kernel)
  | 4, _ => exact tb3 100 (by decide +kernel) (by decide +kernel)
  | 5, _ => exact tb3 101 (by decide +kernel) (by decide +kernel)
  | k + 6, hk => exact absurd hk (by omega)
theorem in_X2 : ∀ w ∈ u_ws RX2 TX2 6, w ∈ vT := by
  intro w hw
  obtain ⟨k, hk, rfl⟩ := List.mem_map.mp hw
  have hk := List.mem_range.mp hk
  match k, hk with
  | 0, _ => exact tb2 236 (by decide +kernel) (by decide +kernel)
  | 1, _ => exact tb2 238 (by decide +kernel) (by decide +kernel)
  | 2, _ => exact tb3 0 (by decide +kernel) (by decide +kernel)
  | 3, _ => exact tb3 2 (by decide +kernel) (by decide +kernel)
  | 4, _ => exact tb3 4 (by decide +kernel) (by decide +kernel)
  | 5, _ => exact tb3 6 (by decide +kernel) (by decide +kernel)
  | k + 6, hk => exact absurd hk (by omega)
theorem in_X3 : ∀ w ∈ u_ws RX3 TX3 6, w ∈ vT := by
  intro w hw
  obtain ⟨k, hk, rfl⟩ := List.mem_map.mp hw
  have hk := List.mem_range.mp hk
  match k, hk with
  | 0, _ => exact tb2 12 (by decide +kernel) (by decide +kernel)
  | 1, _ => exact tb2 13 (by decide +kernel) (by decide +kernel)
  | 2, _ => exact tb2 14 (by decide +kernel) (by decide +kernel)
  | 3, _ => exact tb2 15 (by decide +kernel) (by decide +kernel)
  | 4, _ => exact tb2 16 (by decide +kernel) (by decide +kernel)
  | 5, _ => exact tb2 10 (by decide +kernel) (by decide +kernel)
  | k + 6, hk => exact absurd hk (by omega)
theorem in_X4 : ∀ w ∈ u_ws RX4 TX4 6, w ∈ vT := by
  intro w hw
  obtain ⟨k, hk, rfl⟩ := List.mem_map.mp hw
  have hk := List.mem_range.mp hk
  match k, hk with
  | 0, _ => exact tb3 87 (by decide +kernel) (by decide +kernel)
  | 1, _ => exact tb3 88 (by decide +kernel) (by decide +kernel)
  | 2, _ => exact tb3 89 (by decide +kernel) (by decide +kernel)
  | 3, _ => exact tb3 90 (by decide +kernel) (by decide +kernel)
  | 4, _ => exact tb3 91 (by decide +kernel) (by decide +kernel)
  | 5, _ => exact tb3 92 (by decide +kernel) (by decide +kernel)
  | k + 6, hk => exact absurd hk (by omega)
theorem in_X5 : ∀ w ∈ u_ws RX5 TX5 6, w ∈ vT := by
  intro w hw
  obtain ⟨k, hk, rfl⟩ := List.mem_map.mp hw
  have hk := List.mem_range.mp hk
  match k, hk with
  | 0, _ => exact tb3 68 (by decide +kernel) (by decide +kernel)
  | 1, _ => exact tb3 70 (by decide +kernel) (by decide +kernel)
  | 2, _ => exact tb3 72 (by decide +kernel) (by decide +kernel)
  | 3, _ => exact tb3 74 (by decide +kernel) (by decide +kernel)
  | 4, _ => exact tb3 76 (by decide +kernel) (by decide +kernel)
  | 5, _ => exact tb3 78 (by decide +kernel) (by decide +kernel)
  | k + 6, hk => exact absurd hk (by omega)
theorem in_X6 : ∀ w ∈ u_ws RX6 TX6 5, w ∈ vT := by
  intro w hw
  obtain ⟨k, hk, rfl⟩ := List.mem_map.mp hw
  have hk := List.mem_range.mp hk
  match k, hk with
  | 0, _ => exact tb1 231 (by decide +kernel) (by decide +kernel)
  | 1, _ => exact tb1 233 (by decide +kernel) (by decide +kernel)
  | 2, _ => exact tb1 235 (by decide +kernel) (by decide +kernel)
  | 3, _ => exact tb1 237 (by decide +kernel) (by decide +kernel)
  | 4, _ => exact tb1 239 (by decide +kernel) (by decide +kernel)
  | k + 5, hk => exact absurd hk (by omega)
theorem in_X7 : ∀ w ∈ u_ws RX7 TX7 5, w ∈ vT := by
  intro w hw
  obtain ⟨k, hk, rfl⟩ := List.mem_map.mp hw
  have hk := List.mem_range.mp hk
  match k, hk with
  | 0, _ => exact tb2 20 (by decide +kernel) (by decide +kernel)
  | 1, _ => exact tb2 21 (by decide +kernel) (by decide +kernel)
  | 2, _ => exact tb2 22 (by decide +kernel) (by decide +kernel)
  | 3, _ => exact tb2 23 (by decide +kernel) (by decide +kernel)
  | 4, _ => exact tb2 24 (by decide +kernel) (by decide +kernel)
  | k + 5, hk => exact absurd hk (by omega)
theorem in_X8 : ∀ w ∈ u_ws RX8 TX8 13, w ∈ vT := by
  intro w hw
  obtain ⟨k, hk, rfl⟩ := List.mem_map.mp hw
  have hk := List.mem_range.mp hk
  match k, hk with
  | 0, _ => exact tb1 73 (by decide +kernel) (by decide +kernel)
  | 1, _ => exact tb1 75 (by decide +kernel) (by decide +kernel)
  | 2, _ => exact tb1 77 (by decide +kernel) (by decide +kernel)
  | 3, _ => exact tb1 79 (by decide +kernel) (by decide +kernel)
  | 4, _ => exact tb1 81 (by decide +kernel) (by decide +kernel)
  | 5, _ => exact tb1 83 (by decide +kernel) (by decide +kernel)
  | 6, _ => exact tb1 85 (by decide +kernel) (by decide +kernel)
  | 7, _ => exact tb1 87 (by decide +kernel) (by decide +kernel)
  | 8, _ => exact tb1 89 (by decide +kernel) (by decide +kernel)
  | 9, _ => exact tb1 91 (by decide +kernel) (by decide +kernel)
  | 10, _ => exact tb1 93 (by decide +kernel) (by decide +kernel)
  | 11, _ => exact tb1 95 (by decide +kernel) (by decide +kernel)
  | 12, _ => exact tb1 97 (by decide +kernel) (by decide +kernel)
  | k + 13, hk => exact absurd hk (by omega)
theorem in_X9 : ∀ w ∈ u_ws RX9 TX9 4, w ∈ vT := by
  intro w hw
  obtain ⟨k, hk, rfl⟩ := List.mem_map.mp hw
  have hk := List.mem_range.mp hk
  match k, hk with
  | 0, _ => exact tb1 150 (by decide +kernel) (by decide +kernel)
  | 1, _ => exact tb1 152 (by decide +kernel) (by decide +kernel)
  | 2, _ => exact tb1 154 (by decide +kernel) (by decide +kernel)
  | 3, _ => exact tb1 156 (by decide +kernel) (by decide +kernel)
  | k + 4, hk => exact absurd hk (by omega)
theorem in_X10 : ∀ w ∈ u_ws RX10 TX10 7, w ∈ vT := by
  intro w hw
  obtain ⟨k, hk, rfl⟩ := List.mem_map.mp hw
  have hk := List.mem_range.mp hk
  match k, hk with
  | 0, _ => exact tb1 117 (by decide +kernel) (by decide +kernel)
  | 1, _ => exact tb1 119 (by decide +kernel) (by decide +kernel)
  | 2, _ => exact tb1 121 (by decide +kernel) (by decide +kernel)
  | 3, _ => exact tb1 123 (by decide +kernel) (by decide +kernel)
  | 4, _ => exact tb1 125 (by decide +kernel) (by decide +kernel)
  | 5, _ => exact tb1 127 (by decide +kernel) (by decide +kernel)
  | 6, _ => exact tb1 129 (by decide +kernel) (by decide +kernel)
  | k + 7, hk => exact absurd hk (by omega)
theorem in_X11 : ∀ w ∈ u_ws RX11 TX11 12, w ∈ vT := by
  intro w hw
  obtain ⟨k, hk, rfl⟩ := List.mem_map.mp hw
  have hk := List.mem_range.mp hk
  match k, hk with
  | 0, _ => exact tb1 171 (by decide +kernel) (by decide +kernel)
  | 1, _ => exact tb1 173 (by decide +kernel) (by decide +kernel)
  | 2, _ => exact tb1 175 (by decide +kernel) (by decide +kernel)
  | 3, _ => exact tb1 177 (by decide +kernel) (by decide +kernel)
  | 4, _ => exact tb1 179 (by decide +kernel) (by decide +kernel)
  | 5, _ => exact tb1 181 (by decide +kernel) (by decide +kernel)
  | 6, _ => exact tb1 183 (by decide +kernel) (by decide +kernel)
  | 7, _ => exact tb1 185 (by decide +kernel) (by decide +kernel)
  | 8, _ => exact tb1 187 (by decide +kernel) (by decide +kernel)
  | 9, _ => exact tb1 189 (by decide +kernel) (by decide +kernel)
  | 10, _ => exact tb1 191 (by decide +kernel) (by decide +kernel)
  | 11, _ => exact tb1 193 (by decide +kernel) (by decide +kernel)
  | k + 12, hk => exact absurd hk (by omega)
theorem in_X12 : ∀ w ∈ u_ws RX12 TX12 43, w ∈ vT := by
  intro w hw
  obtain ⟨k, hk, rfl⟩ := List.mem_map.mp hw
  have hk := List.mem_range.mp hk
  match k, hk with
  | 0, _ => exact tb4 110 (by decide +kernel) (by decide +kernel)
  | 1, _ => exact tb4 112 (by decide +kernel) (by decide +kernel)
  | 2, _ => exact tb4 114 (by decide +kernel) (by decide +kernel)
  | 3, _ => exact tb4 116 (by decide +kernel) (by decide +kernel)
  | 4, _ => exact tb4 118 (by decide +kernel) (by decide +kernel)
  | 5, _ => exact tb4 120 (by decide +kernel) (by decide +kernel)
  | 6, _ => exact tb4 122 (by decide +kernel) (by decide +kernel)
  | 7, _ => exact tb4 124 (by decide +kernel) (by decide +kernel)
  | 8, _ => exact tb4 126 (by decide +kernel) (by decide +kernel)
  | 9, _ => exact tb4 128 (by decide +kernel) (by decide +kernel)
  | 10, _ => exact tb4 130 (by decide +kernel) (by decide +kernel)
  | 11, _ => exact tb4 132 (by decide +kernel) (by decide +kernel)
  | 12, _ => exact tb4 134 (by decide +kernel) (by decide +kernel)
  | 13, _ => exact tb4 136 (by decide +kernel) (by decide +kernel)
  | 14, _ => exact tb4 138 (by decide +kernel) (by decide +kernel)
  | 15, _ => exact tb4 140 (by decide +kernel) (by decide +kernel)
  | 16, _ => exact tb4 142 (by decide +kernel) (by decide +kernel)
  | 17, _ => exact tb4 144 (by decide +kernel) (by decide +kernel)
  | 18, _ => exact tb4 146 (by decide +kernel) (by decide +kernel)
  | 19, _ => exact tb4 148 (by decide +kernel) (by decide +kernel)
  | 20, _ => exact tb4 150 (by decide +kernel) (by decide +kernel)
  | 21, _ => exact tb4 152 (by decide +kernel) (by decide +kernel)
  | 22, _ => exact tb4 154 (by decide +kernel) (by decide +kernel)
  | 23, _ => exact tb4 156 (by decide +kernel) (by decide +kernel)
  | 24, _ => exact tb4 158 (by decide +kernel) (by decide +kernel)
  | 25, _ => exact tb4 160 (by decide +kernel) (by decide +kernel)
  | 26, _ => exact tb4 162 (by decide +kernel) (by decide +kernel)
  | 27, _ => exact tb4 164 (by decide +kernel) (by decide +kernel)
  | 28, _ => exact tb4 166 (by decide +kernel) (by decide +kernel)
  | 29, _ => exact tb4 168 (by decide +kernel) (by decide +kernel)
  | 30, _ => exact tb4 170 (by decide +kernel) (by decide +kernel)
  | 31, _ => exact tb4 172 (by decide +kernel) (by decide +kernel)
  | 32, _ => exact tb4 174 (by decide +kernel) (by decide +kernel)
  | 33, _ => exact tb4 176 (by decide +kernel) (by decide +kernel)
  | 34, _ => exact tb4 178 (by decide +kernel) (by decide +kernel)
  | 35, _ => exact tb4 180 (by decide +kernel) (by decide +kernel)
  | 36, _ => exact tb4 182 (by decide +kernel) (by decide +kernel)
  | 37, _ => exact tb4 184 (by decide +kernel) (by decide +kernel)
  | 38, _ => exact tb4 186 (by decide +kernel) (by decide +kernel)
  | 39, _ => exact tb4 188 (by decide +kernel) (by decide +kernel)
  | 40, _ => exact tb4 190 (by decide +kernel) (by decide +kernel)
  | 41, _ => exact tb4 192 (by decide +kernel) (by decide +kernel)
  | 42, _ => exact tb4 194 (by decide +kernel) (by decide +kernel)
  | k + 43, hk => exact absurd hk (by omega)
theorem fk_X0_9_0 : FK RX0 9 0 0 2 := ⟨RX0, TX0, 2, rfl, by decide, by decide, rfl, in_X0, RX0, tb1 32 (by decide +kernel) (by decide +kernel), Or.inl rfl⟩
theorem fw_X0_9_0 : FW RX0 9 0 0 2 (.array .int) true := ⟨RX0, TX0, 2, tyX0, rfl, by decide, by decide, rfl, in_X0, tb1 32 (by decide +kernel) (by decide +kernel), tyX0_ok, nmX0, by decide +kernel, rfl, fun h => by first | rfl | cases h⟩
theorem fk_X11_306_0 : FK RX11 306 0 0 2 := ⟨RX0, TX0, 2, rfl, by decide, by decide, rfl, in_X0, RX0, tb1 33 (by decide +kernel) (by decide +kernel), Or.inl rfl⟩
theorem fk_X0_15_0 : FK RX0 15 0 1 0 := ⟨RX0, TX0, 2, rfl, by decide, by decide, rfl, in_X0, RX0, tb1 34 (by decide +kernel) (by decide +kernel), Or.inl rfl⟩
theorem fw_X0_15_0 : FW RX0 15 0 1 0 (.int) false := ⟨RX0, TX0, 2, tyX0, rfl, by decide, by decide, rfl, in_X0, tb1 34 (by decide +kernel) (by decide +kernel), tyX0_ok, nmX0, by decide +kernel, rfl, fun h => by first | rfl | cases h⟩
theorem fk_X11_135_0 : FK RX11 135 0 1 0 := ⟨RX0, TX0, 2, rfl, by decide, by decide, rfl, in_X0, RX0, tb1 35 (by decide +kernel) (by decide +kernel), Or.inl rfl⟩
theorem fw_X11_135_0 : FW RX11 135 0 1 0 (.int) false := ⟨RX0, TX0, 2, tyX0, rfl, by decide, by decide, rfl, in_X0, tb1 35 (by decide +kernel) (by decide +kernel), tyX0_ok, nmX0, by decide +kernel, rfl, fun h => by first | rfl | cases h⟩
theorem fk_X8_9_8 : FK RX8 9 8 0 2 := ⟨RX8, TX8, 13, rfl, by decide, by decide, rfl, in_X8, RX8, tb1 48 (by decide +kernel) (by decide +kernel), Or.inl rfl⟩
theorem fw_X8_9_8 : FW RX8 9 8 0 2 (.array .int) true := ⟨RX8, TX8, 13, tyX8, rfl, by decide, by decide, rfl, in_X8, tb1 48 (by decide +kernel) (by decide +kernel), tyX8_ok, nmX8, by decide +kernel, rfl, fun h => by first | rfl | cases h⟩
theorem fk_X11_313_8 : FK RX11 313 8 0 2 := ⟨RX8, TX8, 13, rfl, by decide, by decide, rfl, in_X8, RX8, tb1 49 (by decide +kernel) (by decide +kernel), Or.inl rfl⟩
theorem fk_X8_15_8 : FK RX8 15 8 1 2 := ⟨RX8, TX8, 13, rfl, by decide, by decide, rfl, in_X8, RX8, tb1 50 (by decide +kernel) (by decide +kernel), Or.inl rfl⟩
theorem fw_X8_15_8 : FW RX8 15 8 1 2 (.array .int) true := ⟨RX8, TX8, 13, tyX8, rfl, by decide, by decide, rfl, in_X8, tb1 50 (by decide +kernel) (by decide +kernel), tyX8_ok, nmX8, by decide +kernel, rfl, fun h => by first | rfl | cases h⟩
theorem fk_X11_316_8 : FK RX11 316 8 1 2 := ⟨RX8, TX8, 13, rfl, by decide, by decide, rfl, in_X8, RX8, tb1 51 (by decide +kernel) (by decide +kernel), Or.inl rfl⟩
theorem fk_X8_18_8 : FK RX8 18 8 2 2 := ⟨RX8, TX8, 13, rfl, by decide, by decide, rfl, in_X8, RX8, tb1 52 (by decide +kernel) (by decide +kernel), Or.inl rfl⟩
theorem fw_X8_18_8 : FW RX8 18 8 2 2 (.array .int) true := ⟨RX8, TX8, 13, tyX8, rfl, by decide, by decide, rfl, in_X8, tb1 52 (by decide +kernel) (by decide +kernel), tyX8_ok, nmX8, by decide +kernel, rfl, fun h => by first | rfl | cases h⟩
theorem fk_X11_330_8 : FK RX11 330 8 2 2 := ⟨RX8, TX8, 13, rfl, by decide, by decide, rfl, in_X8, RX8, tb1 53 (by decide +kernel) (by decide +kernel), Or.inl rfl⟩
theorem fk_X8_21_8 : FK RX8 21 8 3 2 := ⟨RX8, TX8, 13, rfl, by decide, by decide, rfl, in_X8, RX8, tb1 54 (by decide +kernel) (by decide +kernel), Or.inl rfl⟩
theorem fw_X8_21_8 : FW RX8 21 8 3 2 (.array .int) true := ⟨RX8, TX8, 13, tyX8, rfl, by decide, by decide, rfl, in_X8, tb1 54 (by decide +kernel) (by decide +kernel), tyX8_ok, nmX8, by decide +kernel, rfl, fun h => by first | rfl | cases h⟩
theorem fk_X11_319_8 : FK RX11 319 8 3 2 := ⟨RX8, TX8, 13, rfl, by decide, by decide, rfl, in_X8, RX8, tb1 55 (by decide +kernel) (by decide +kernel), Or.inl rfl⟩
theorem fk_X8_30_8 : FK RX8 30 8 4 2 := ⟨RX8, TX8, 13, rfl, by decide, by decide, rfl, in_X8, RX8, tb1 56 (by decide +kernel) (by decide +kernel), Or.inl rfl⟩
theorem fw_X8_30_8 : FW RX8 30 8 4 2 (.object "RegularRally$Book") false := ⟨RX8, TX8, 13, tyX8, rfl, by decide, by decide, rfl, in_X8, tb1 56 (by decide +kernel) (by decide +kernel), tyX8_ok, nmX8, by decide +kernel, rfl, fun h => by first | rfl | cases h⟩
theorem fk_X11_333_8 : FK RX11 333 8 4 2 := ⟨RX8, TX8, 13, rfl, by decide, by decide, rfl, in_X8, RX8, tb1 57 (by decide +kernel) (by decide +kernel), Or.inl rfl⟩
theorem fw_X11_333_8 : FW RX11 333 8 4 2 (.object "RegularRally$Book") false := ⟨RX8, TX8, 13, tyX8, rfl, by decide, by decide, rfl, in_X8, tb1 57 (by decide +kernel) (by decide +kernel), tyX8_ok, nmX8, by decide +kernel, rfl, fun h => by first | rfl | cases h⟩
theorem fk_X8_24_8 : FK RX8 24 8 5 2 := ⟨RX8, TX8, 13, rfl, by decide, by decide, rfl, in_X8, RX8, tb1 58 (by decide +kernel) (by decide +kernel), Or.inl rfl⟩
theorem fw_X8_24_8 : FW RX8 24 8 5 2 (.array .int) true := ⟨RX8, TX8, 13, tyX8, rfl, by decide, by decide, rfl, in_X8, tb1 58 (by decide +kernel) (by decide +kernel), tyX8_ok, nmX8, by decide +kernel, rfl, fun h => by first | rfl | cases h⟩
theorem fk_X11_329_8 : FK RX11 329 8 5 2 := ⟨RX8, TX8, 13, rfl, by decide, by decide, rfl, in_X8, RX8, tb1 59 (by decide +kernel) (by decide +kernel), Or.inl rfl⟩
theorem fk_X8_34_8 : FK RX8 34 8 6 0 := ⟨RX8, TX8, 13, rfl, by decide, by decide, rfl, in_X8, RX8, tb1 60 (by decide +kernel) (by decide +kernel), Or.inl rfl⟩
theorem fw_X8_34_8 : FW RX8 34 8 6 0 (.int) false := ⟨RX8, TX8, 13, tyX8, rfl, by decide, by decide, rfl, in_X8, tb1 60 (by decide +kernel) (by decide +kernel), tyX8_ok, nmX8, by decide +kernel, rfl, fun h => by first | rfl | cases h⟩
theorem fk_X11_345_8 : FK RX11 345 8 6 0 := ⟨RX8, TX8, 13, rfl, by decide, by decide, rfl, in_X8, RX8, tb1 61 (by decide +kernel) (by decide +kernel), Or.inl rfl⟩
theorem fw_X11_345_8 : FW RX11 345 8 6 0 (.int) false := ⟨RX8, TX8, 13, tyX8, rfl, by decide, by decide, rfl, in_X8, tb1 61 (by decide +kernel) (by decide +kernel), tyX8_ok, nmX8, by decide +kernel, rfl, fun h => by first | rfl | cases h⟩
theorem fk_X8_38_8 : FK RX8 38 8 7 0 := ⟨RX8, TX8, 13, rfl, by decide, by decide, rfl, in_X8, RX8, tb1 62 (by decide +kernel) (by decide +kernel), Or.inl rfl⟩
theorem fw_X8_38_8 : FW RX8 38 8 7 0 (.int) false := ⟨RX8, TX8, 13, tyX8, rfl, by decide, by decide, rfl, in_X8, tb1 62 (by decide +kernel) (by decide +kernel), tyX8_ok, nmX8, by decide +kernel, rfl, fun h => by first | rfl | cases h⟩
theorem fk_X11_291_8 : FK RX11 291 8 7 0 := ⟨RX8, TX8, 13, rfl, by decide, by decide, rfl, in_X8, RX8, tb1 63 (by decide +kernel) (by decide +kernel), Or.inl rfl⟩
theorem fw_X11_291_8 : FW RX11 291 8 7 0 (.int) false := ⟨RX8, TX8, 13, tyX8, rfl, by decide, by decide, rfl, in_X8, tb1 63 (by decide +kernel) (by decide +kernel), tyX8_ok, nmX8, by decide +kernel, rfl, fun h => by first | rfl | cases h⟩
theorem fk_X8_41_8 : FK RX8 41 8 8 0 := ⟨RX8, TX8, 13, rfl, by decide, by decide, rfl, in_X8, RX8, tb1 64 (by decide +kernel) (by decide +kernel), Or.inl rfl⟩
theorem fw_X8_41_8 : FW RX8 41 8 8 0 (.boolean) false := ⟨RX8, TX8, 13, tyX8, rfl, by decide, by decide, rfl, in_X8, tb1 64 (by decide +kernel) (by decide +kernel), tyX8_ok, nmX8, by decide +kernel, rfl, fun h => by first | rfl | cases h⟩
theorem fk_X11_141_8 : FK RX11 141 8 8 0 := ⟨RX8, TX8, 13, rfl, by decide, by decide, rfl, in_X8, RX8, tb1 65 (by decide +kernel) (by decide +kernel), Or.inl rfl⟩
theorem fw_X11_141_8 : FW RX11 141 8 8 0 (.boolean) false := ⟨RX8, TX8, 13, tyX8, rfl, by decide, by decide, rfl, in_X8, tb1 65 (by decide +kernel) (by decide +kernel), tyX8_ok, nmX8, by decide +kernel, rfl, fun h => by first | rfl | cases h⟩
theorem fk_X8_27_8 : FK RX8 27 8 9 2 := ⟨RX8, TX8, 13, rfl, by decide, by decide, rfl, in_X8, RX8, tb1 66 (by decide +kernel) (by decide +kernel), Or.inl rfl⟩
theorem fw_X8_27_8 : FW RX8 27 8 9 2 (.array .int) true := ⟨RX8, TX8, 13, tyX8, rfl, by decide, by decide, rfl, in_X8, tb1 66 (by decide +kernel) (by decide +kernel), tyX8_ok, nmX8, by decide +kernel, rfl, fun h => by first | rfl | cases h⟩
theorem fk_X11_353_8 : FK RX11 353 8 9 2 := ⟨RX8, TX8, 13, rfl, by decide, by decide, rfl, in_X8, RX8, tb1 67 (by decide +kernel) (by decide +kernel), Or.inl rfl⟩
theorem fk_X8_64_8 : FK RX8 64 8 10 0 := ⟨RX8, TX8, 13, rfl, by decide, by decide, rfl, in_X8, RX8, tb1 68 (by decide +kernel) (by decide +kernel), Or.inl rfl⟩
theorem fw_X8_64_8 : FW RX8 64 8 10 0 (.int) false := ⟨RX8, TX8, 13, tyX8, rfl, by decide, by decide, rfl, in_X8, tb1 68 (by decide +kernel) (by decide +kernel), tyX8_ok, nmX8, by decide +kernel, rfl, fun h => by first | rfl | cases h⟩
theorem fk_X11_350_8 : FK RX11 350 8 10 0 := ⟨RX8, TX8, 13, rfl, by decide, by decide, rfl, in_X8, RX8, tb1 69 (by decide +kernel) (by decide +kernel), Or.inl rfl⟩
theorem fw_X11_350_8 : FW RX11 350 8 10 0 (.int) false := ⟨RX8, TX8, 13, tyX8, rfl, by decide, by decide, rfl, in_X8, tb1 69 (by decide +kernel) (by decide +kernel), tyX8_ok, nmX8, by decide +kernel, rfl, fun h => by first | rfl | cases h⟩
theorem fk_X8_61_8 : FK RX8 61 8 11 0 := ⟨RX8, TX8, 13, rfl, by decide, by decide, rfl, in_X8, RX8, tb1 70 (by decide +kernel) (by decide +kernel), Or.inl rfl⟩
theorem fw_X8_61_8 : FW RX8 61 8 11 0 (.int) false := ⟨RX8, TX8, 13, tyX8, rfl, by decide, by decide, rfl, in_X8, tb1 70 (by decide +kernel) (by decide +kernel), tyX8_ok, nmX8, by decide +kernel, rfl, fun h => by first | rfl | cases h⟩
theorem fk_X8_45_8 : FK RX8 45 8 12 0 := ⟨RX8, TX8, 13, rfl, by decide, by decide, rfl, in_X8, RX8, tb1 71 (by decide +kernel) (by decide +kernel), Or.inl rfl⟩
theorem fw_X8_45_8 : FW RX8 45 8 12 0 (.int) false := ⟨RX8, TX8, 13, tyX8, rfl, by decide, by decide, rfl, in_X8, tb1 71 (by decide +kernel) (by decide +kernel), tyX8_ok, nmX8, by decide +kernel, rfl, fun h => by first | rfl | cases h⟩
theorem fk_X11_144_8 : FK RX11 144 8 12 0 := ⟨RX8, TX8, 13, rfl, by decide, by decide, rfl, in_X8, RX8, tb1 72 (by decide +kernel) (by decide +kernel), Or.inl rfl⟩
theorem fw_X11_144_8 : FW RX11 144 8 12 0 (.int) false := ⟨RX8, TX8, 13, tyX8, rfl, by decide, by decide, rfl, in_X8, tb1 72 (by decide +kernel) (by decide +kernel), tyX8_ok, nmX8, by decide +kernel, rfl, fun h => by first | rfl | cases h⟩
theorem fk_X10_9_10 : FK RX10 9 10 0 2 := ⟨RX10, TX10, 7, rfl, by decide, by decide, rfl, in_X10, RX10, tb1 106 (by decide +kernel) (by decide +kernel), Or.inl rfl⟩
theorem fw_X10_9_10 : FW RX10 9 10 0 2 (.array .int) true := ⟨RX10, TX10, 7, tyX10, rfl, by decide, by decide, rfl, in_X10, tb1 106 (by decide +kernel) (by decide +kernel), tyX10_ok, nmX10, by decide +kernel, rfl, fun h => by first | rfl | cases h⟩
theorem fk_X11_151_10 : FK RX11 151 10 0 2 := ⟨RX10, TX10, 7, rfl, by decide, by decide, rfl, in_X10, RX10, tb1 107 (by decide +kernel) (by decide +kernel), Or.inl rfl⟩
theorem fk_X10_15_10 : FK RX10 15 10 1 2 := ⟨RX10, TX10, 7, rfl, by decide, by decide, rfl, in_X10, RX10, tb1 108 (by decide +kernel) (by decide +kernel), Or.inl rfl⟩
theorem fw_X10_15_10 : FW RX10 15 10 1 2 (.array .int) true := ⟨RX10, TX10, 7, tyX10, rfl, by decide, by decide, rfl, in_X10, tb1 108 (by decide +kernel) (by decide +kernel), tyX10_ok, nmX10, by decide +kernel, rfl, fun h => by first | rfl | cases h⟩
theorem fk_X10_24_10 : FK RX10 24 10 2 0 := ⟨RX10, TX10, 7, rfl, by decide, by decide, rfl, in_X10, RX10, tb1 109 (by decide +kernel) (by decide +kernel), Or.inl rfl⟩
theorem fw_X10_24_10 : FW RX10 24 10 2 0 (.int) false := ⟨RX10, TX10, 7, tyX10, rfl, by decide, by decide, rfl, in_X10, tb1 109 (by decide +kernel) (by decide +kernel), tyX10_ok, nmX10, by decide +kernel, rfl, fun h => by first | rfl | cases h⟩
theorem fk_X11_150_10 : FK RX11 150 10 2 0 := ⟨RX10, TX10, 7, rfl, by decide, by decide, rfl, in_X10, RX10, tb1 110 (by decide +kernel) (by decide +kernel), Or.inl rfl⟩
theorem fw_X11_150_10 : FW RX11 150 10 2 0 (.int) false := ⟨RX10, TX10, 7, tyX10, rfl, by decide, by decide, rfl, in_X10, tb1 110 (by decide +kernel) (by decide +kernel), tyX10_ok, nmX10, by decide +kernel, rfl, fun h => by first | rfl | cases h⟩
theorem fk_X10_28_10 : FK RX10 28 10 3 0 := ⟨RX10, TX10, 7, rfl, by decide, by decide, rfl, in_X10, RX10, tb1 111 (by decide +kernel) (by decide +kernel), Or.inl rfl⟩
theorem fw_X10_28_10 : FW RX10 28 10 3 0 (.int) false := ⟨RX10, TX10, 7, tyX10, rfl, by decide, by decide, rfl, in_X10, tb1 111 (by decide +kernel) (by decide +kernel), tyX10_ok, nmX10, by decide +kernel, rfl, fun h => by first | rfl | cases h⟩
theorem fk_X11_164_10 : FK RX11 164 10 3 0 := ⟨RX10, TX10, 7, rfl, by decide, by decide, rfl, in_X10, RX10, tb1 112 (by decide +kernel) (by decide +kernel), Or.inl rfl⟩
theorem fw_X11_164_10 : FW RX11 164 10 3 0 (.int) false := ⟨RX10, TX10, 7, tyX10, rfl, by decide, by decide, rfl, in_X10, tb1 112 (by decide +kernel) (by decide +kernel), tyX10_ok, nmX10, by decide +kernel, rfl, fun h => by first | rfl | cases h⟩
theorem fk_X10_18_10 : FK RX10 18 10 4 2 := ⟨RX10, TX10, 7, rfl, by decide, by decide, rfl, in_X10, RX10, tb1 113 (by decide +kernel) (by decide +kernel), Or.inl rfl⟩
theorem fw_X10_18_10 : FW RX10 18 10 4 2 (.array .int) true := ⟨RX10, TX10, 7, tyX10, rfl, by decide, by decide, rfl, in_X10, tb1 113 (by decide +kernel) (by decide +kernel), tyX10_ok, nmX10, by decide +kernel, rfl, fun h => by first | rfl | cases h⟩
theorem fk_X10_21_10 : FK RX10 21 10 5 2 := ⟨RX10, TX10, 7, rfl, by decide, by decide, rfl, in_X10, RX10, tb1 114 (by decide +kernel) (by decide +kernel), Or.inl rfl⟩
theorem fw_X10_21_10 : FW RX10 21 10 5 2 (.array .int) true := ⟨RX10, TX10, 7, tyX10, rfl, by decide, by decide, rfl, in_X10, tb1 114 (by decide +kernel) (by decide +kernel), tyX10_ok, nmX10, by decide +kernel, rfl, fun h => by first | rfl | cases h⟩
theorem fk_X10_31_10 : FK RX10 31 10 6 0 := ⟨RX10, TX10, 7, rfl, by decide, by decide, rfl, in_X10, RX10, tb1 115 (by decide +kernel) (by decide +kernel), Or.inl rfl⟩
theorem fw_X10_31_10 : FW RX10 31 10 6 0 (.int) false := ⟨RX10, TX10, 7, tyX10, rfl, by decide, by decide, rfl, in_X10, tb1 115 (by decide +kernel) (by decide +kernel), tyX10_ok, nmX10, by decide +kernel, rfl, fun h => by first | rfl | cases h⟩
theorem fk_X11_167_10 : FK RX11 167 10 6 0 := ⟨RX10, TX10, 7, rfl, by decide, by decide, rfl, in_X10, RX10, tb1 116 (by decide +kernel) (by decide +kernel), Or.inl rfl⟩
theorem fw_X11_167_10 : FW RX11 167 10 6 0 (.int) false := ⟨RX10, TX10, 7, tyX10, rfl, by decide, by decide, rfl, in_X10, tb1 116 (by decide +kernel) (by decide +kernel), tyX10_ok, nmX10, by decide +kernel, rfl, fun h => by first | rfl | cases h⟩
theorem fk_X9_9_9 : FK RX9 9 9 0 2 := ⟨RX9, TX9, 4, rfl, by decide, by decide, rfl, in_X9, RX9, tb1 143 (by decide +kernel) (by decide +kernel), Or.inl rfl⟩
theorem fw_X9_9_9 : FW RX9 9 9 0 2 (.array .int) true := ⟨RX9, TX9, 4, tyX9, rfl, by decide, by decide, rfl, in_X9, tb1 143 (by decide +kernel) (by decide +kernel), tyX9_ok, nmX9, by decide +kernel, rfl, fun h => by first | rfl | cases h⟩
theorem fk_X11_123_9 : FK RX11 123 9 0 2 := ⟨RX9, TX9, 4, rfl, by decide, by decide, rfl, in_X9, RX9, tb1 144 (by decide +kernel) (by decide +kernel), Or.inl rfl⟩
theorem fk_X9_15_9 : FK RX9 15 9 1 0 := ⟨RX9, TX9, 4, rfl, by decide, by decide, rfl, in_X9, RX9, tb1 145 (by decide +kernel) (by decide +kernel), Or.inl rfl⟩
theorem fw_X9_15_9 : FW RX9 15 9 1 0 (.boolean) false := ⟨RX9, TX9, 4, tyX9, rfl, by decide, by decide, rfl, in_X9, tb1 145 (by decide +kernel) (by decide +kernel), tyX9_ok, nmX9, by decide +kernel, rfl, fun h => by first | rfl | cases h⟩
theorem fk_X11_258_9 : FK RX11 258 9 1 0 := ⟨RX9, TX9, 4, rfl, by decide, by decide, rfl, in_X9, RX9, tb1 146 (by decide +kernel) (by decide +kernel), Or.inl rfl⟩
theorem fw_X11_258_9 : FW RX11 258 9 1 0 (.boolean) false := ⟨RX9, TX9, 4, tyX9, rfl, by decide, by decide, rfl, in_X9, tb1 146 (by decide +kernel) (by decide +kernel), tyX9_ok, nmX9, by decide +kernel, rfl, fun h => by first | rfl | cases h⟩
theorem fk_X9_19_9 : FK RX9 19 9 2 0 := ⟨RX9, TX9, 4, rfl, by decide, by decide, rfl, in_X9, RX9, tb1 147 (by decide +kernel) (by decide +kernel), Or.inl rfl⟩
theorem fw_X9_19_9 : FW RX9 19 9 2 0 (.int) false := ⟨RX9, TX9, 4, tyX9, rfl, by decide, by decide, rfl, in_X9, tb1 147 (by decide +kernel) (by decide +kernel), tyX9_ok, nmX9, by decide +kernel, rfl, fun h => by first | rfl | cases h⟩
theorem fk_X11_261_9 : FK RX11 261 9 2 0 := ⟨RX9, TX9, 4, rfl, by decide, by decide, rfl, in_X9, RX9, tb1 148 (by decide +kernel) (by decide +kernel), Or.inl rfl⟩
theorem fw_X11_261_9 : FW RX11 261 9 2 0 (.int) false := ⟨RX9, TX9, 4, tyX9, rfl, by decide, by decide, rfl, in_X9, tb1 148 (by decide +kernel) (by decide +kernel), tyX9_ok, nmX9, by decide +kernel, rfl, fun h => by first | rfl | cases h⟩
theorem fk_X9_23_9 : FK RX9 23 9 3 0 := ⟨RX9, TX9, 4, rfl, by decide, by decide, rfl, in_X9, RX9, tb1 149 (by decide +kernel) (by decide +kernel), Or.inl rfl⟩
theorem fw_X9_23_9 : FW RX9 23 9 3 0 (.int) false := ⟨RX9, TX9, 4, tyX9, rfl, by decide, by decide, rfl, in_X9, tb1 149 (by decide +kernel) (by decide +kernel), tyX9_ok, nmX9, by decide +kernel, rfl, fun h => by first | rfl | cases h⟩
theorem fk_X11_13_11 : FK RX11 13 11 0 2 := ⟨RX11, TX11, 12, rfl, by decide, by decide, rfl, in_X11, RX11, tb1 159 (by decide +kernel) (by decide +kernel), Or.inl rfl⟩
theorem fw_X11_13_11 : FW RX11 13 11 0 2 (.array (.object "RegularRally$Road")) true := ⟨RX11, TX11, 12, tyX11, rfl, by decide, by decide, rfl, in_X11, tb1 159 (by decide +kernel) (by decide +kernel), tyX11_ok, nmX11, by decide +kernel, rfl, fun h => by first | rfl | cases h⟩
theorem fk_X11_65_11 : FK RX11 65 11 1 0 := ⟨RX11, TX11, 12, rfl, by decide, by decide, rfl, in_X11, RX11, tb1 160 (by decide +kernel) (by decide +kernel), Or.inl rfl⟩
theorem fw_X11_65_11 : FW RX11 65 11 1 0 (.int) false := ⟨RX11, TX11, 12, tyX11, rfl, by decide, by decide, rfl, in_X11, tb1 160 (by decide +kernel) (by decide +kernel), tyX11_ok, nmX11, by decide +kernel, rfl, fun h => by first | rfl | cases h⟩
theorem fk_X11_20_11 : FK RX11 20 11 2 2 := ⟨RX11, TX11, 12, rfl, by decide, by decide, rfl, in_X11, RX11, tb1 161 (by decide +kernel) (by decide +kernel), Or.inl rfl⟩
theorem fw_X11_20_11 : FW RX11 20 11 2 2 (.object "RegularRally$Book") true := ⟨RX11, TX11, 12, tyX11, rfl, by decide, by decide, rfl, in_X11, tb1 161 (by decide +kernel) (by decide +kernel), tyX11_ok, nmX11, by decide +kernel, rfl, fun h => by first | rfl | cases h⟩
theorem fk_X11_27_11 : FK RX11 27 11 3 2 := ⟨RX11, TX11, 12, rfl, by decide, by decide, rfl, in_X11, RX11, tb1 162 (by decide +kernel) (by decide +kernel), Or.inl rfl⟩
theorem fw_X11_27_11 : FW RX11 27 11 3 2 (.object "RegularRally$Search") true := ⟨RX11, TX11, 12, tyX11, rfl, by decide, by decide, rfl, in_X11, tb1 162 (by decide +kernel) (by decide +kernel), tyX11_ok, nmX11, by decide +kernel, rfl, fun h => by first | rfl | cases h⟩
theorem fk_X11_34_11 : FK RX11 34 11 4 2 := ⟨RX11, TX11, 12, rfl, by decide, by decide, rfl, in_X11, RX11, tb1 163 (by decide +kernel) (by decide +kernel), Or.inl rfl⟩
theorem fw_X11_34_11 : FW RX11 34 11 4 2 (.object "RegularRally$Way") true := ⟨RX11, TX11, 12, tyX11, rfl, by decide, by decide, rfl, in_X11, tb1 163 (by decide +kernel) (by decide +kernel), tyX11_ok, nmX11, by decide +kernel, rfl, fun h => by first | rfl | cases h⟩
theorem fk_X11_40_11 : FK RX11 40 11 5 2 := ⟨RX11, TX11, 12, rfl, by decide, by decide, rfl, in_X11, RX11, tb1 164 (by decide +kernel) (by decide +kernel), Or.inl rfl⟩
theorem fw_X11_40_11 : FW RX11 40 11 5 2 (.array (.object "RegularRally$Control")) true := ⟨RX11, TX11, 12, tyX11, rfl, by decide, by decide, rfl, in_X11, tb1 164 (by decide +kernel) (by decide +kernel), tyX11_ok, nmX11, by decide +kernel, rfl, fun h => by first | rfl | cases h⟩
theorem fk_X11_186_11 : FK RX11 186 11 6 0 := ⟨RX11, TX11, 12, rfl, by decide, by decide, rfl, in_X11, RX11, tb1 165 (by decide +kernel) (by decide +kernel), Or.inl rfl⟩
theorem fw_X11_186_11 : FW RX11 186 11 6 0 (.int) false := ⟨RX11, TX11, 12, tyX11, rfl, by decide, by decide, rfl, in_X11, tb1 165 (by decide +kernel) (by decide +kernel), tyX11_ok, nmX11, by decide +kernel, rfl, fun h => by first | rfl | cases h⟩
theorem fk_X11_46_11 : FK RX11 46 11 7 2 := ⟨RX11, TX11, 12, rfl, by decide, by decide, rfl, in_X11, RX11, tb1 166 (by decide +kernel) (by decide +kernel), Or.inl rfl⟩
theorem fw_X11_46_11 : FW RX11 46 11 7 2 (.array (.object "RegularRally$Car")) true := ⟨RX11, TX11, 12, tyX11, rfl, by decide, by decide, rfl, in_X11, tb1 166 (by decide +kernel) (by decide +kernel), tyX11_ok, nmX11, by decide +kernel, rfl, fun h => by first | rfl | cases h⟩
theorem fk_X11_214_11 : FK RX11 214 11 8 0 := ⟨RX11, TX11, 12, rfl, by decide, by decide, rfl, in_X11, RX11, tb1 167 (by decide +kernel) (by decide +kernel), Or.inl rfl⟩
theorem fw_X11_214_11 : FW RX11 214 11 8 0 (.int) false := ⟨RX11, TX11, 12, tyX11, rfl, by decide, by decide, rfl, in_X11, tb1 167 (by decide +kernel) (by decide +kernel), tyX11_ok, nmX11, by decide +kernel, rfl, fun h => by first | rfl | cases h⟩
theorem fk_X11_52_11 : FK RX11 52 11 9 2 := ⟨RX11, TX11, 12, rfl, by decide, by decide, rfl, in_X11, RX11, tb1 168 (by decide +kernel) (by decide +kernel), Or.inl rfl⟩
theorem fw_X11_52_11 : FW RX11 52 11 9 2 (.array (.object "RegularRally$Sheet")) true := ⟨RX11, TX11, 12, tyX11, rfl, by decide, by decide, rfl, in_X11, tb1 168 (by decide +kernel) (by decide +kernel), tyX11_ok, nmX11, by decide +kernel, rfl, fun h => by first | rfl | cases h⟩
theorem fk_X11_288_11 : FK RX11 288 11 10 0 := ⟨RX11, TX11, 12, rfl, by decide, by decide, rfl, in_X11, RX11, tb1 169 (by decide +kernel) (by decide +kernel), Or.inl rfl⟩
theorem fw_X11_288_11 : FW RX11 288 11 10 0 (.int) false := ⟨RX11, TX11, 12, tyX11, rfl, by decide, by decide, rfl, in_X11, tb1 169 (by decide +kernel) (by decide +kernel), tyX11_ok, nmX11, by decide +kernel, rfl, fun h => by first | rfl | cases h⟩
theorem fk_X11_81_11 : FK RX11 81 11 11 0 := ⟨RX11, TX11, 12, rfl, by decide, by decide, rfl, in_X11, RX11, tb1 170 (by decide +kernel) (by decide +kernel), Or.inl rfl⟩
theorem fw_X11_81_11 : FW RX11 81 11 11 0 (.int) false := ⟨RX11, TX11, 12, tyX11, rfl, by decide, by decide, rfl, in_X11, tb1 170 (by decide +kernel) (by decide +kernel), tyX11_ok, nmX11, by decide +kernel, rfl, fun h => by first | rfl | cases h⟩
theorem fk_X7_9_3 : FK RX7 9 3 0 0 := ⟨RX3, TX3, 6, rfl, by decide, by decide, rfl, in_X3, RX7, tb1 218 (by decide +kernel) (by decide +kernel), Or.inl rfl⟩
theorem fw_X7_9_3 : FW RX7 9 3 0 0 (.int) true := ⟨RX3, TX3, 6, tyX3, rfl, by decide, by decide, rfl, in_X3, tb1 218 (by decide +kernel) (by decide +kernel), tyX3_ok, nmX3, by decide +kernel, rfl, fun h => by first | rfl | cases h⟩
theorem fk_X7_9_6 : FK RX7 9 6 0 0 := ⟨RX6, TX6, 5, rfl, by decide, by decide, rfl, in_X6, RX7, tb1 218 (by decide +kernel) (by decide +kernel), Or.inl rfl⟩
theorem fw_X7_9_6 : FW RX7 9 6 0 0 (.int) true := ⟨RX6, TX6, 5, tyX6, rfl, by decide, by decide, rfl, in_X6, tb1 218 (by decide +kernel) (by decide +kernel), tyX6_ok, nmX6, by decide +kernel, rfl, fun h => by first | rfl | cases h⟩
theorem fk_X7_9_7 : FK RX7 9 7 0 0 := ⟨RX7, TX7, 5, rfl, by decide, by decide, rfl, in_X7, RX7, tb1 218 (by decide +kernel) (by decide +kernel), Or.inl rfl⟩
theorem fw_X7_9_7 : FW RX7 9 7 0 0 (.int) true := ⟨RX7, TX7, 5, tyX7, rfl, by decide, by decide, rfl, in_X7, tb1 218 (by decide +kernel) (by decide +kernel), tyX7_ok, nmX7, by decide +kernel, rfl, fun h => by first | rfl | cases h⟩
theorem fk_X6_9_6 : FK RX6 9 6 0 0 := ⟨RX6, TX6, 5, rfl, by decide, by decide, rfl, in_X6, RX6, tb1 219 (by decide +kernel) (by decide +kernel), Or.inr (tb1 220 (by decide +kernel) (by decide +kernel))⟩
theorem fk_X11_93_3 : FK RX11 93 3 0 0 := ⟨RX3, TX3, 6, rfl, by decide, by decide, rfl, in_X3, RX7, tb1 221 (by decide +kernel) (by decide +kernel), Or.inl rfl⟩
theorem fk_X11_93_6 : FK RX11 93 6 0 0 := ⟨RX6, TX6, 5, rfl, by decide, by decide, rfl, in_X6, RX7, tb1 221 (by decide +kernel) (by decide +kernel), Or.inl rfl⟩
theorem fk_X11_93_7 : FK RX11 93 7 0 0 := ⟨RX7, TX7, 5, rfl, by decide, by decide, rfl, in_X7, RX7, tb1 221 (by decide +kernel) (by decide +kernel), Or.inl rfl⟩
theorem fk_X7_15_3 : FK RX7 15 3 1 0 := ⟨RX3, TX3, 6, rfl, by decide, by decide, rfl, in_X3, RX7, tb1 222 (by decide +kernel) (by decide +kernel), Or.inl rfl⟩
theorem fw_X7_15_3 : FW RX7 15 3 1 0 (.int) true := ⟨RX3, TX3, 6, tyX3, rfl, by decide, by decide, rfl, in_X3, tb1 222 (by decide +kernel) (by decide +kernel), tyX3_ok, nmX3, by decide +kernel, rfl, fun h => by first | rfl | cases h⟩
theorem fk_X7_15_6 : FK RX7 15 6 1 0 := ⟨RX6, TX6, 5, rfl, by decide, by decide, rfl, in_X6, RX7, tb1 222 (by decide +kernel) (by decide +kernel), Or.inl rfl⟩
theorem fw_X7_15_6 : FW RX7 15 6 1 0 (.int) true := ⟨RX6, TX6, 5, tyX6, rfl, by decide, by decide, rfl, in_X6, tb1 222 (by decide +kernel) (by decide +kernel), tyX6_ok, nmX6, by decide +kernel, rfl, fun h => by first | rfl | cases h⟩
theorem fk_X7_15_7 : FK RX7 15 7 1 0 := ⟨RX7, TX7, 5, rfl, by decide, by decide, rfl, in_X7, RX7, tb1 222 (by decide +kernel) (by decide +kernel), Or.inl rfl⟩
theorem fw_X7_15_7 : FW RX7 15 7 1 0 (.int) true := ⟨RX7, TX7, 5, tyX7, rfl, by decide, by decide, rfl, in_X7, tb1 222 (by decide +kernel) (by decide +kernel), tyX7_ok, nmX7, by decide +kernel, rfl, fun h => by first | rfl | cases h⟩
theorem fk_X11_96_3 : FK RX11 96 3 1 0 := ⟨RX3, TX3, 6, rfl, by decide, by decide, rfl, in_X3, RX7, tb1 223 (by decide +kernel) (by decide +kernel), Or.inl rfl⟩
theorem fk_X11_96_6 : FK RX11 96 6 1 0 := ⟨RX6, TX6, 5, rfl, by decide, by decide, rfl, in_X6, RX7, tb1 223 (by decide +kernel) (by decide +kernel), Or.inl rfl⟩
theorem fk_X11_96_7 : FK RX11 96 7 1 0 := ⟨RX7, TX7, 5, rfl, by decide, by decide, rfl, in_X7, RX7, tb1 223 (by decide +kernel) (by decide +kernel), Or.inl rfl⟩
theorem fk_X7_18_3 : FK RX7 18 3 2 0 := ⟨RX3, TX3, 6, rfl, by decide, by decide, rfl, in_X3, RX7, tb1 224 (by decide +kernel) (by decide +kernel), Or.inl rfl⟩
theorem fw_X7_18_3 : FW RX7 18 3 2 0 (.int) true := ⟨RX3, TX3, 6, tyX3, rfl, by decide, by decide, rfl, in_X3, tb1 224 (by decide +kernel) (by decide +kernel), tyX3_ok, nmX3, by decide +kernel, rfl, fun h => by first | rfl | cases h⟩
theorem fk_X7_18_6 : FK RX7 18 6 2 0 := ⟨RX6, TX6, 5, rfl, by decide, by decide, rfl, in_X6, RX7, tb1 224 (by decide +kernel) (by decide +kernel), Or.inl rfl⟩
theorem fw_X7_18_6 : FW RX7 18 6 2 0 (.int) true := ⟨RX6, TX6, 5, tyX6, rfl, by decide, by decide, rfl, in_X6, tb1 224 (by decide +kernel) (by decide +kernel), tyX6_ok, nmX6, by decide +kernel, rfl, fun h => by first | rfl | cases h⟩
theorem fk_X7_18_7 : FK RX7 18 7 2 0 := ⟨RX7, TX7, 5, rfl, by decide, by decide, rfl, in_X7, RX7, tb1 224 (by decide +kernel) (by decide +kernel), Or.inl rfl⟩
theorem fw_X7_18_7 : FW RX7 18 7 2 0 (.int) true := ⟨RX7, TX7, 5, tyX7, rfl, by decide, by decide, rfl, in_X7, tb1 224 (by decide +kernel) (by decide +kernel), tyX7_ok, nmX7, by decide +kernel, rfl, fun h => by first | rfl | cases h⟩
theorem fk_X8_58_3 : FK RX8 58 3 2 0 := ⟨RX3, TX3, 6, rfl, by decide, by decide, rfl, in_X3, RX7, tb1 225 (by decide +kernel) (by decide +kernel), Or.inl rfl⟩
theorem fk_X8_58_6 : FK RX8 58 6 2 0 := ⟨RX6, TX6, 5, rfl, by decide, by decide, rfl, in_X6, RX7, tb1 225 (by decide +kernel) (by decide +kernel), Or.inl rfl⟩
theorem fk_X8_58_7 : FK RX8 58 7 2 0 := ⟨RX7, TX7, 5, rfl, by decide, by decide, rfl, in_X7, RX7, tb1 225 (by decide +kernel) (by decide +kernel), Or.inl rfl⟩
theorem fk_X11_99_3 : FK RX11 99 3 2 0 := ⟨RX3, TX3, 6, rfl, by decide, by decide, rfl, in_X3, RX7, tb1 226 (by decide +kernel) (by decide +kernel), Or.inl rfl⟩
theorem fk_X11_99_6 : FK RX11 99 6 2 0 := ⟨RX6, TX6, 5, rfl, by decide, by decide, rfl, in_X6, RX7, tb1 226 (by decide +kernel) (by decide +kernel), Or.inl rfl⟩
theorem fk_X11_99_7 : FK RX11 99 7 2 0 := ⟨RX7, TX7, 5, rfl, by decide, by decide, rfl, in_X7, RX7, tb1 226 (by decide +kernel) (by decide +kernel), Or.inl rfl⟩
theorem fk_X7_21_3 : FK RX7 21 3 3 0 := ⟨RX3, TX3, 6, rfl, by decide, by decide, rfl, in_X3, RX7, tb1 227 (by decide +kernel) (by decide +kernel), Or.inl rfl⟩
theorem fw_X7_21_3 : FW RX7 21 3 3 0 (.int) true := ⟨RX3, TX3, 6, tyX3, rfl, by decide, by decide, rfl, in_X3, tb1 227 (by decide +kernel) (by decide +kernel), tyX3_ok, nmX3, by decide +kernel, rfl, fun h => by first | rfl | cases h⟩
theorem fk_X7_21_6 : FK RX7 21 6 3 0 := ⟨RX6, TX6, 5, rfl, by decide, by decide, rfl, in_X6, RX7, tb1 227 (by decide +kernel) (by decide +kernel), Or.inl rfl⟩
theorem fw_X7_21_6 : FW RX7 21 6 3 0 (.int) true := ⟨RX6, TX6, 5, tyX6, rfl, by decide, by decide, rfl, in_X6, tb1 227 (by decide +kernel) (by decide +kernel), tyX6_ok, nmX6, by decide +kernel, rfl, fun h => by first | rfl | cases h⟩
theorem fk_X7_21_7 : FK RX7 21 7 3 0 := ⟨RX7, TX7, 5, rfl, by decide, by decide, rfl, in_X7, RX7, tb1 227 (by decide +kernel) (by decide +kernel), Or.inl rfl⟩
theorem fw_X7_21_7 : FW RX7 21 7 3 0 (.int) true := ⟨RX7, TX7, 5, tyX7, rfl, by decide, by decide, rfl, in_X7, tb1 227 (by decide +kernel) (by decide +kernel), tyX7_ok, nmX7, by decide +kernel, rfl, fun h => by first | rfl | cases h⟩
theorem fk_X11_102_3 : FK RX11 102 3 3 0 := ⟨RX3, TX3, 6, rfl, by decide, by decide, rfl, in_X3, RX7, tb1 228 (by decide +kernel) (by decide +kernel), Or.inl rfl⟩
theorem fk_X11_102_6 : FK RX11 102 6 3 0 := ⟨RX6, TX6, 5, rfl, by decide, by decide, rfl, in_X6, RX7, tb1 228 (by decide +kernel) (by decide +kernel), Or.inl rfl⟩
theorem fk_X11_102_7 : FK RX11 102 7 3 0 := ⟨RX7, TX7, 5, rfl, by decide, by decide, rfl, in_X7, RX7, tb1 228 (by decide +kernel) (by decide +kernel), Or.inl rfl⟩
theorem fk_X7_24_3 : FK RX7 24 3 4 0 := ⟨RX3, TX3, 6, rfl, by decide, by decide, rfl, in_X3, RX7, tb1 229 (by decide +kernel) (by decide +kernel), Or.inl rfl⟩
theorem fw_X7_24_3 : FW RX7 24 3 4 0 (.boolean) false := ⟨RX3, TX3, 6, tyX3, rfl, by decide, by decide, rfl, in_X3, tb1 229 (by decide +kernel) (by decide +kernel), tyX3_ok, nmX3, by decide +kernel, rfl, fun h => by first | rfl | cases h⟩
theorem fk_X7_24_6 : FK RX7 24 6 4 0 := ⟨RX6, TX6, 5, rfl, by decide, by decide, rfl, in_X6, RX7, tb1 229 (by decide +kernel) (by decide +kernel), Or.inl rfl⟩
theorem fw_X7_24_6 : FW RX7 24 6 4 0 (.boolean) false := ⟨RX6, TX6, 5, tyX6, rfl, by decide, by decide, rfl, in_X6, tb1 229 (by decide +kernel) (by decide +kernel), tyX6_ok, nmX6, by decide +kernel, rfl, fun h => by first | rfl | cases h⟩
theorem fk_X7_24_7 : FK RX7 24 7 4 0 := ⟨RX7, TX7, 5, rfl, by decide, by decide, rfl, in_X7, RX7, tb1 229 (by decide +kernel) (by decide +kernel), Or.inl rfl⟩
theorem fw_X7_24_7 : FW RX7 24 7 4 0 (.boolean) false := ⟨RX7, TX7, 5, tyX7, rfl, by decide, by decide, rfl, in_X7, tb1 229 (by decide +kernel) (by decide +kernel), tyX7_ok, nmX7, by decide +kernel, rfl, fun h => by first | rfl | cases h⟩
theorem fk_X11_77_3 : FK RX11 77 3 4 0 := ⟨RX3, TX3, 6, rfl, by decide, by decide, rfl, in_X3, RX7, tb1 230 (by decide +kernel) (by decide +kernel), Or.inl rfl⟩
theorem fw_X11_77_3 : FW RX11 77 3 4 0 (.boolean) false := ⟨RX3, TX3, 6, tyX3, rfl, by decide, by decide, rfl, in_X3, tb1 230 (by decide +kernel) (by decide +kernel), tyX3_ok, nmX3, by decide +kernel, rfl, fun h => by first | rfl | cases h⟩
theorem fk_X11_77_6 : FK RX11 77 6 4 0 := ⟨RX6, TX6, 5, rfl, by decide, by decide, rfl, in_X6, RX7, tb1 230 (by decide +kernel) (by decide +kernel), Or.inl rfl⟩
theorem fw_X11_77_6 : FW RX11 77 6 4 0 (.boolean) false := ⟨RX6, TX6, 5, tyX6, rfl, by decide, by decide, rfl, in_X6, tb1 230 (by decide +kernel) (by decide +kernel), tyX6_ok, nmX6, by decide +kernel, rfl, fun h => by first | rfl | cases h⟩
theorem fk_X11_77_7 : FK RX11 77 7 4 0 := ⟨RX7, TX7, 5, rfl, by decide, by decide, rfl, in_X7, RX7, tb1 230 (by decide +kernel) (by decide +kernel), Or.inl rfl⟩
theorem fw_X11_77_7 : FW RX11 77 7 4 0 (.boolean) false := ⟨RX7, TX7, 5, tyX7, rfl, by decide, by decide, rfl, in_X7, tb1 230 (by decide +kernel) (by decide +kernel), tyX7_ok, nmX7, by decide +kernel, rfl, fun h => by first | rfl | cases h⟩
theorem fk_X3_7_3 : FK RX3 7 3 5 0 := ⟨RX3, TX3, 6, rfl, by decide, by decide, rfl, in_X3, RX3, tb2 8 (by decide +kernel) (by decide +kernel), Or.inl rfl⟩
theorem fw_X3_7_3 : FW RX3 7 3 5 0 (.boolean) false := ⟨RX3, TX3, 6, tyX3, rfl, by decide, by decide, rfl, in_X3, tb2 8 (by decide +kernel) (by decide +kernel), tyX3_ok, nmX3, by decide +kernel, rfl, fun h => by first | rfl | cases h⟩
theorem fk_X11_86_3 : FK RX11 86 3 5 0 := ⟨RX3, TX3, 6, rfl, by decide, by decide, rfl, in_X3, RX3, tb2 9 (by decide +kernel) (by decide +kernel), Or.inl rfl⟩
theorem fw_X11_86_3 : FW RX11 86 3 5 0 (.boolean) false := ⟨RX3, TX3, 6, tyX3, rfl, by decide, by decide, rfl, in_X3, tb2 9 (by decide +kernel) (by decide +kernel), tyX3_ok, nmX3, by decide +kernel, rfl, fun h => by first | rfl | cases h⟩
theorem fk_X2_7_2 : FK RX2 7 2 0 0 := ⟨RX2, TX2, 6, rfl, by decide, by decide, rfl, in_X2, RX2, tb2 229 (by decide +kernel) (by decide +kernel), Or.inl rfl⟩
theorem fw_X2_7_2 : FW RX2 7 2 0 0 (.int) true := ⟨RX2, TX2, 6, tyX2, rfl, by decide, by decide, rfl, in_X2, tb2 229 (by decide +kernel) (by decide +kernel), tyX2_ok, nmX2, by decide +kernel, rfl, fun h => by first | rfl | cases h⟩
theorem fk_X11_367_2 : FK RX11 367 2 0 0 := ⟨RX2, TX2, 6, rfl, by decide, by decide, rfl, in_X2, RX2, tb2 230 (by decide +kernel) (by decide +kernel), Or.inl rfl⟩
theorem fk_X11_210_2 : FK RX11 210 2 1 0 := ⟨RX2, TX2, 6, rfl, by decide, by decide, rfl, in_X2, RX2, tb2 231 (by decide +kernel) (by decide +kernel), Or.inl rfl⟩
theorem fw_X11_210_2 : FW RX11 210 2 1 0 (.boolean) false := ⟨RX2, TX2, 6, tyX2, rfl, by decide, by decide, rfl, in_X2, tb2 231 (by decide +kernel) (by decide +kernel), tyX2_ok, nmX2, by decide +kernel, rfl, fun h => by first | rfl | cases h⟩
theorem fk_X2_13_2 : FK RX2 13 2 2 0 := ⟨RX2, TX2, 6, rfl, by decide, by decide, rfl, in_X2, RX2, tb2 232 (by decide +kernel) (by decide +kernel), Or.inl rfl⟩
theorem fw_X2_13_2 : FW RX2 13 2 2 0 (.int) false := ⟨RX2, TX2, 6, tyX2, rfl, by decide, by decide, rfl, in_X2, tb2 232 (by decide +kernel) (by decide +kernel), tyX2_ok, nmX2, by decide +kernel, rfl, fun h => by first | rfl | cases h⟩
theorem fk_X2_16_2 : FK RX2 16 2 3 1 := ⟨RX2, TX2, 6, rfl, by decide, by decide, rfl, in_X2, RX2, tb2 233 (by decide +kernel) (by decide +kernel), Or.inl rfl⟩
theorem fw_X2_16_2 : FW RX2 16 2 3 1 (.long) false := ⟨RX2, TX2, 6, tyX2, rfl, by decide, by decide, rfl, in_X2, tb2 233 (by decide +kernel) (by decide +kernel), tyX2_ok, nmX2, by decide +kernel, rfl, fun h => by first | rfl | cases h⟩
theorem fk_X2_20_2 : FK RX2 20 2 4 0 := ⟨RX2, TX2, 6, rfl, by decide, by decide, rfl, in_X2, RX2, tb2 234 (by decide +kernel) (by decide +kernel), Or.inl rfl⟩
theorem fw_X2_20_2 : FW RX2 20 2 4 0 (.int) false := ⟨RX2, TX2, 6, tyX2, rfl, by decide, by decide, rfl, in_X2, tb2 234 (by decide +kernel) (by decide +kernel), tyX2_ok, nmX2, by decide +kernel, rfl, fun h => by first | rfl | cases h⟩
theorem fk_X2_23_2 : FK RX2 23 2 5 1 := ⟨RX2, TX2, 6, rfl, by decide, by decide, rfl, in_X2, RX2, tb2 235 (by decide +kernel) (by decide +kernel), Or.inl rfl⟩
theorem fw_X2_23_2 : FW RX2 23 2 5 1 (.long) false := ⟨RX2, TX2, 6, tyX2, rfl, by decide, by decide, rfl, in_X2, tb2 235 (by decide +kernel) (by decide +kernel), tyX2_ok, nmX2, by decide +kernel, rfl, fun h => by first | rfl | cases h⟩
theorem fk_X1_21_1 : FK RX1 21 1 0 0 := ⟨RX1, TX1, 6, rfl, by decide, by decide, rfl, in_X1, RX1, tb3 57 (by decide +kernel) (by decide +kernel), Or.inl rfl⟩
theorem fw_X1_21_1 : FW RX1 21 1 0 0 (.int) true := ⟨RX1, TX1, 6, tyX1, rfl, by decide, by decide, rfl, in_X1, tb3 57 (by decide +kernel) (by decide +kernel), tyX1_ok, nmX1, by decide +kernel, rfl, fun h => by first | rfl | cases h⟩
theorem fk_X1_21_4 : FK RX1 21 4 0 0 := ⟨RX4, TX4, 6, rfl, by decide, by decide, rfl, in_X4, RX1, tb3 57 (by decide +kernel) (by decide +kernel), Or.inl rfl⟩
theorem fw_X1_21_4 : FW RX1 21 4 0 0 (.int) true := ⟨RX4, TX4, 6, tyX4, rfl, by decide, by decide, rfl, in_X4, tb3 57 (by decide +kernel) (by decide +kernel), tyX4_ok, nmX4, by decide +kernel, rfl, fun h => by first | rfl | cases h⟩
theorem fk_X1_21_5 : FK RX1 21 5 0 0 := ⟨RX5, TX5, 6, rfl, by decide, by decide, rfl, in_X5, RX1, tb3 57 (by decide +kernel) (by decide +kernel), Or.inl rfl⟩
theorem fw_X1_21_5 : FW RX1 21 5 0 0 (.int) true := ⟨RX5, TX5, 6, tyX5, rfl, by decide, by decide, rfl, in_X5, tb3 57 (by decide +kernel) (by decide +kernel), tyX5_ok, nmX5, by decide +kernel, rfl, fun h => by first | rfl | cases h⟩
theorem fk_X11_427_1 : FK RX11 427 1 0 0 := ⟨RX1, TX1, 6, rfl, by decide, by decide, rfl, in_X1, RX1, tb3 58 (by decide +kernel) (by decide +kernel), Or.inl rfl⟩
theorem fk_X11_427_4 : FK RX11 427 4 0 0 := ⟨RX4, TX4, 6, rfl, by decide, by decide, rfl, in_X4, RX1, tb3 58 (by decide +kernel) (by decide +kernel), Or.inl rfl⟩
theorem fk_X11_427_5 : FK RX11 427 5 0 0 := ⟨RX5, TX5, 6, rfl, by decide, by decide, rfl, in_X5, RX1, tb3 58 (by decide +kernel) (by decide +kernel), Or.inl rfl⟩
theorem fk_X1_25_1 : FK RX1 25 1 1 0 := ⟨RX1, TX1, 6, rfl, by decide, by decide, rfl, in_X1, RX1, tb3 59 (by decide +kernel) (by decide +kernel), Or.inl rfl⟩
theorem fw_X1_25_1 : FW RX1 25 1 1 0 (.int) true := ⟨RX1, TX1, 6, tyX1, rfl, by decide, by decide, rfl, in_X1, tb3 59 (by decide +kernel) (by decide +kernel), tyX1_ok, nmX1, by decide +kernel, rfl, fun h => by first | rfl | cases h⟩
theorem fk_X1_25_4 : FK RX1 25 4 1 0 := ⟨RX4, TX4, 6, rfl, by decide, by decide, rfl, in_X4, RX1, tb3 59 (by decide +kernel) (by decide +kernel), Or.inl rfl⟩
theorem fw_X1_25_4 : FW RX1 25 4 1 0 (.int) true := ⟨RX4, TX4, 6, tyX4, rfl, by decide, by decide, rfl, in_X4, tb3 59 (by decide +kernel) (by decide +kernel), tyX4_ok, nmX4, by decide +kernel, rfl, fun h => by first | rfl | cases h⟩
theorem fk_X1_25_5 : FK RX1 25 5 1 0 := ⟨RX5, TX5, 6, rfl, by decide, by decide, rfl, in_X5, RX1, tb3 59 (by decide +kernel) (by decide +kernel), Or.inl rfl⟩
theorem fw_X1_25_5 : FW RX1 25 5 1 0 (.int) true := ⟨RX5, TX5, 6, tyX5, rfl, by decide, by decide, rfl, in_X5, tb3 59 (by decide +kernel) (by decide +kernel), tyX5_ok, nmX5, by decide +kernel, rfl, fun h => by first | rfl | cases h⟩
theorem fk_X11_381_1 : FK RX11 381 1 1 0 := ⟨RX1, TX1, 6, rfl, by decide, by decide, rfl, in_X1, RX1, tb3 60 (by decide +kernel) (by decide +kernel), Or.inl rfl⟩
theorem fk_X11_381_4 : FK RX11 381 4 1 0 := ⟨RX4, TX4, 6, rfl, by decide, by decide, rfl, in_X4, RX1, tb3 60 (by decide +kernel) (by decide +kernel), Or.inl rfl⟩
theorem fk_X11_381_5 : FK RX11 381 5 1 0 := ⟨RX5, TX5, 6, rfl, by decide, by decide, rfl, in_X5, RX1, tb3 60 (by decide +kernel) (by decide +kernel), Or.inl rfl⟩
theorem fk_X1_9_1 : FK RX1 9 1 2 2 := ⟨RX1, TX1, 6, rfl, by decide, by decide, rfl, in_X1, RX1, tb3 61 (by decide +kernel) (by decide +kernel), Or.inl rfl⟩
theorem fw_X1_9_1 : FW RX1 9 1 2 2 (.array .int) true := ⟨RX1, TX1, 6, tyX1, rfl, by decide, by decide, rfl, in_X1, tb3 61 (by decide +kernel) (by decide +kernel), tyX1_ok, nmX1, by decide +kernel, rfl, fun h => by first | rfl | cases h⟩
theorem fk_X1_9_4 : FK RX1 9 4 2 2 := ⟨RX4, TX4, 6, rfl, by decide, by decide, rfl, in_X4, RX1, tb3 61 (by decide +kernel) (by decide +kernel), Or.inl rfl⟩
theorem fw_X1_9_4 : FW RX1 9 4 2 2 (.array .int) true := ⟨RX4, TX4, 6, tyX4, rfl, by decide, by decide, rfl, in_X4, tb3 61 (by decide +kernel) (by decide +kernel), tyX4_ok, nmX4, by decide +kernel, rfl, fun h => by first | rfl | cases h⟩
theorem fk_X1_9_5 : FK RX1 9 5 2 2 := ⟨RX5, TX5, 6, rfl, by decide, by decide, rfl, in_X5, RX1, tb3 61 (by decide +kernel) (by decide +kernel), Or.inl rfl⟩
theorem fw_X1_9_5 : FW RX1 9 5 2 2 (.array .int) true := ⟨RX5, TX5, 6, tyX5, rfl, by decide, by decide, rfl, in_X5, tb3 61 (by decide +kernel) (by decide +kernel), tyX5_ok, nmX5, by decide +kernel, rfl, fun h => by first | rfl | cases h⟩
theorem fk_X11_378_1 : FK RX11 378 1 2 2 := ⟨RX1, TX1, 6, rfl, by decide, by decide, rfl, in_X1, RX1, tb3 62 (by decide +kernel) (by decide +kernel), Or.inl rfl⟩
theorem fk_X11_378_4 : FK RX11 378 4 2 2 := ⟨RX4, TX4, 6, rfl, by decide, by decide, rfl, in_X4, RX1, tb3 62 (by decide +kernel) (by decide +kernel), Or.inl rfl⟩
theorem fk_X11_378_5 : FK RX11 378 5 2 2 := ⟨RX5, TX5, 6, rfl, by decide, by decide, rfl, in_X5, RX1, tb3 62 (by decide +kernel) (by decide +kernel), Or.inl rfl⟩
theorem fk_X1_15_1 : FK RX1 15 1 3 2 := ⟨RX1, TX1, 6, rfl, by decide, by decide, rfl, in_X1, RX1, tb3 63 (by decide +kernel) (by decide +kernel), Or.inl rfl⟩
theorem fw_X1_15_1 : FW RX1 15 1 3 2 (.array .int) true := ⟨RX1, TX1, 6, tyX1, rfl, by decide, by decide, rfl, in_X1, tb3 63 (by decide +kernel) (by decide +kernel), tyX1_ok, nmX1, by decide +kernel, rfl, fun h => by first | rfl | cases h⟩
theorem fk_X1_15_4 : FK RX1 15 4 3 2 := ⟨RX4, TX4, 6, rfl, by decide, by decide, rfl, in_X4, RX1, tb3 63 (by decide +kernel) (by decide +kernel), Or.inl rfl⟩
theorem fw_X1_15_4 : FW RX1 15 4 3 2 (.array .int) true := ⟨RX4, TX4, 6, tyX4, rfl, by decide, by decide, rfl, in_X4, tb3 63 (by decide +kernel) (by decide +kernel), tyX4_ok, nmX4, by decide +kernel, rfl, fun h => by first | rfl | cases h⟩
theorem fk_X1_15_5 : FK RX1 15 5 3 2 := ⟨RX5, TX5, 6, rfl, by decide, by decide, rfl, in_X5, RX1, tb3 63 (by decide +kernel) (by decide +kernel), Or.inl rfl⟩
theorem fw_X1_15_5 : FW RX1 15 5 3 2 (.array .int) true := ⟨RX5, TX5, 6, tyX5, rfl, by decide, by decide, rfl, in_X5, tb3 63 (by decide +kernel) (by decide +kernel), tyX5_ok, nmX5, by decide +kernel, rfl, fun h => by first | rfl | cases h⟩
theorem fk_X11_420_1 : FK RX11 420 1 3 2 := ⟨RX1, TX1, 6, rfl, by decide, by decide, rfl, in_X1, RX1, tb3 64 (by decide +kernel) (by decide +kernel), Or.inl rfl⟩
theorem fk_X11_420_4 : FK RX11 420 4 3 2 := ⟨RX4, TX4, 6, rfl, by decide, by decide, rfl, in_X4, RX1, tb3 64 (by decide +kernel) (by decide +kernel), Or.inl rfl⟩
theorem fk_X11_420_5 : FK RX11 420 5 3 2 := ⟨RX5, TX5, 6, rfl, by decide, by decide, rfl, in_X5, RX1, tb3 64 (by decide +kernel) (by decide +kernel), Or.inl rfl⟩
theorem fk_X1_28_1 : FK RX1 28 1 4 0 := ⟨RX1, TX1, 6, rfl, by decide, by decide, rfl, in_X1, RX1, tb3 65 (by decide +kernel) (by decide +kernel), Or.inl rfl⟩
theorem fw_X1_28_1 : FW RX1 28 1 4 0 (.int) false := ⟨RX1, TX1, 6, tyX1, rfl, by decide, by decide, rfl, in_X1, tb3 65 (by decide +kernel) (by decide +kernel), tyX1_ok, nmX1, by decide +kernel, rfl, fun h => by first | rfl | cases h⟩
theorem fk_X1_28_4 : FK RX1 28 4 4 0 := ⟨RX4, TX4, 6, rfl, by decide, by decide, rfl, in_X4, RX1, tb3 65 (by decide +kernel) (by decide +kernel), Or.inl rfl⟩
theorem fw_X1_28_4 : FW RX1 28 4 4 0 (.int) false := ⟨RX4, TX4, 6, tyX4, rfl, by decide, by decide, rfl, in_X4, tb3 65 (by decide +kernel) (by decide +kernel), tyX4_ok, nmX4, by decide +kernel, rfl, fun h => by first | rfl | cases h⟩
theorem fk_X1_28_5 : FK RX1 28 5 4 0 := ⟨RX5, TX5, 6, rfl, by decide, by decide, rfl, in_X5, RX1, tb3 65 (by decide +kernel) (by decide +kernel), Or.inl rfl⟩
theorem fw_X1_28_5 : FW RX1 28 5 4 0 (.int) false := ⟨RX5, TX5, 6, tyX5, rfl, by decide, by decide, rfl, in_X5, tb3 65 (by decide +kernel) (by decide +kernel), tyX5_ok, nmX5, by decide +kernel, rfl, fun h => by first | rfl | cases h⟩
theorem fk_X1_18_1 : FK RX1 18 1 5 2 := ⟨RX1, TX1, 6, rfl, by decide, by decide, rfl, in_X1, RX1, tb3 66 (by decide +kernel) (by decide +kernel), Or.inl rfl⟩
theorem fw_X1_18_1 : FW RX1 18 1 5 2 (.array .int) true := ⟨RX1, TX1, 6, tyX1, rfl, by decide, by decide, rfl, in_X1, tb3 66 (by decide +kernel) (by decide +kernel), tyX1_ok, nmX1, by decide +kernel, rfl, fun h => by first | rfl | cases h⟩
theorem fk_X1_18_4 : FK RX1 18 4 5 2 := ⟨RX4, TX4, 6, rfl, by decide, by decide, rfl, in_X4, RX1, tb3 66 (by decide +kernel) (by decide +kernel), Or.inl rfl⟩
theorem fw_X1_18_4 : FW RX1 18 4 5 2 (.array .int) true := ⟨RX4, TX4, 6, tyX4, rfl, by decide, by decide, rfl, in_X4, tb3 66 (by decide +kernel) (by decide +kernel), tyX4_ok, nmX4, by decide +kernel, rfl, fun h => by first | rfl | cases h⟩
theorem fk_X1_18_5 : FK RX1 18 5 5 2 := ⟨RX5, TX5, 6, rfl, by decide, by decide, rfl, in_X5, RX1, tb3 66 (by decide +kernel) (by decide +kernel), Or.inl rfl⟩
theorem fw_X1_18_5 : FW RX1 18 5 5 2 (.array .int) true := ⟨RX5, TX5, 6, tyX5, rfl, by decide, by decide, rfl, in_X5, tb3 66 (by decide +kernel) (by decide +kernel), tyX5_ok, nmX5, by decide +kernel, rfl, fun h => by first | rfl | cases h⟩
theorem fk_X11_231_1 : FK RX11 231 1 5 2 := ⟨RX1, TX1, 6, rfl, by decide, by decide, rfl, in_X1, RX1, tb3 67 (by decide +kernel) (by decide +kernel), Or.inl rfl⟩
theorem fk_X11_231_4 : FK RX11 231 4 5 2 := ⟨RX4, TX4, 6, rfl, by decide, by decide, rfl, in_X4, RX1, tb3 67 (by decide +kernel) (by decide +kernel), Or.inl rfl⟩
theorem fk_X11_231_5 : FK RX11 231 5 5 2 := ⟨RX5, TX5, 6, rfl, by decide, by decide, rfl, in_X5, RX1, tb3 67 (by decide +kernel) (by decide +kernel), Or.inl rfl⟩
theorem fk_X12_101_12 : FK RX12 101 12 0 0 := ⟨RX12, TX12, 43, rfl, by decide, by decide, rfl, in_X12, RX12, tb4 67 (by decide +kernel) (by decide +kernel), Or.inl rfl⟩
theorem fw_X12_101_12 : FW RX12 101 12 0 0 (.int) false := ⟨RX12, TX12, 43, tyX12, rfl, by decide, by decide, rfl, in_X12, tb4 67 (by decide +kernel) (by decide +kernel), tyX12_ok, nmX12, by decide +kernel, rfl, fun h => by first | rfl | cases h⟩
theorem fk_X12_108_12 : FK RX12 108 12 1 0 := ⟨RX12, TX12, 43, rfl, by decide, by decide, rfl, in_X12, RX12, tb4 68 (by decide +kernel) (by decide +kernel), Or.inl rfl⟩
theorem fw_X12_108_12 : FW RX12 108 12 1 0 (.int) false := ⟨RX12, TX12, 43, tyX12, rfl, by decide, by decide, rfl, in_X12, tb4 68 (by decide +kernel) (by decide +kernel), tyX12_ok, nmX12, by decide +kernel, rfl, fun h => by first | rfl | cases h⟩
theorem fk_X12_7_12 : FK RX12 7 12 2 2 := ⟨RX12, TX12, 43, rfl, by decide, by decide, rfl, in_X12, RX12, tb4 69 (by decide +kernel) (by decide +kernel), Or.inl rfl⟩
theorem fw_X12_7_12 : FW RX12 7 12 2 2 (.array .int) true := ⟨RX12, TX12, 43, tyX12, rfl, by decide, by decide, rfl, in_X12, tb4 69 (by decide +kernel) (by decide +kernel), tyX12_ok, nmX12, by decide +kernel, rfl, fun h => by first | rfl | cases h⟩
theorem fk_X12_13_12 : FK RX12 13 12 3 2 := ⟨RX12, TX12, 43, rfl, by decide, by decide, rfl, in_X12, RX12, tb4 70 (by decide +kernel) (by decide +kernel), Or.inl rfl⟩
theorem fw_X12_13_12 : FW RX12 13 12 3 2 (.array .int) true := ⟨RX12, TX12, 43, tyX12, rfl, by decide, by decide, rfl, in_X12, tb4 70 (by decide +kernel) (by decide +kernel), tyX12_ok, nmX12, by decide +kernel, rfl, fun h => by first | rfl | cases h⟩
theorem fk_X12_16_12 : FK RX12 16 12 4 2 := ⟨RX12, TX12, 43, rfl, by decide, by decide, rfl, in_X12, RX12, tb4 71 (by decide +kernel) (by decide +kernel), Or.inl rfl⟩
theorem fw_X12_16_12 : FW RX12 16 12 4 2 (.array .int) true := ⟨RX12, TX12, 43, tyX12, rfl, by decide, by decide, rfl, in_X12, tb4 71 (by decide +kernel) (by decide +kernel), tyX12_ok, nmX12, by decide +kernel, rfl, fun h => by first | rfl | cases h⟩
theorem fk_X12_19_12 : FK RX12 19 12 5 2 := ⟨RX12, TX12, 43, rfl, by decide, by decide, rfl, in_X12, RX12, tb4 72 (by decide +kernel) (by decide +kernel), Or.inl rfl⟩
theorem fw_X12_19_12 : FW RX12 19 12 5 2 (.array .int) true := ⟨RX12, TX12, 43, tyX12, rfl, by decide, by decide, rfl, in_X12, tb4 72 (by decide +kernel) (by decide +kernel), tyX12_ok, nmX12, by decide +kernel, rfl, fun h => by first | rfl | cases h⟩
theorem fk_X12_22_12 : FK RX12 22 12 6 2 := ⟨RX12, TX12, 43, rfl, by decide, by decide, rfl, in_X12, RX12, tb4 73 (by decide +kernel) (by decide +kernel), Or.inl rfl⟩
theorem fw_X12_22_12 : FW RX12 22 12 6 2 (.array .boolean) true := ⟨RX12, TX12, 43, tyX12, rfl, by decide, by decide, rfl, in_X12, tb4 73 (by decide +kernel) (by decide +kernel), tyX12_ok, nmX12, by decide +kernel, rfl, fun h => by first | rfl | cases h⟩
theorem fk_X12_26_12 : FK RX12 26 12 7 2 := ⟨RX12, TX12, 43, rfl, by decide, by decide, rfl, in_X12, RX12, tb4 74 (by decide +kernel) (by decide +kernel), Or.inl rfl⟩
theorem fw_X12_26_12 : FW RX12 26 12 7 2 (.array .boolean) true := ⟨RX12, TX12, 43, tyX12, rfl, by decide, by decide, rfl, in_X12, tb4 74 (by decide +kernel) (by decide +kernel), tyX12_ok, nmX12, by decide +kernel, rfl, fun h => by first | rfl | cases h⟩
theorem fk_X12_29_12 : FK RX12 29 12 8 2 := ⟨RX12, TX12, 43, rfl, by decide, by decide, rfl, in_X12, RX12, tb4 75 (by decide +kernel) (by decide +kernel), Or.inl rfl⟩
theorem fw_X12_29_12 : FW RX12 29 12 8 2 (.array .int) true := ⟨RX12, TX12, 43, tyX12, rfl, by decide, by decide, rfl, in_X12, tb4 75 (by decide +kernel) (by decide +kernel), tyX12_ok, nmX12, by decide +kernel, rfl, fun h => by first | rfl | cases h⟩
theorem fk_X12_32_12 : FK RX12 32 12 9 2 := ⟨RX12, TX12, 43, rfl, by decide, by decide, rfl, in_X12, RX12, tb4 76 (by decide +kernel) (by decide +kernel), Or.inl rfl⟩
theorem fw_X12_32_12 : FW RX12 32 12 9 2 (.array .int) true := ⟨RX12, TX12, 43, tyX12, rfl, by decide, by decide, rfl, in_X12, tb4 76 (by decide +kernel) (by decide +kernel), tyX12_ok, nmX12, by decide +kernel, rfl, fun h => by first | rfl | cases h⟩
theorem fk_X12_35_12 : FK RX12 35 12 10 2 := ⟨RX12, TX12, 43, rfl, by decide, by decide, rfl, in_X12, RX12, tb4 77 (by decide +kernel) (by decide +kernel), Or.inl rfl⟩
theorem fw_X12_35_12 : FW RX12 35 12 10 2 (.array .int) true := ⟨RX12, TX12, 43, tyX12, rfl, by decide, by decide, rfl, in_X12, tb4 77 (by decide +kernel) (by decide +kernel), tyX12_ok, nmX12, by decide +kernel, rfl, fun h => by first | rfl | cases h⟩
theorem fk_X12_38_12 : FK RX12 38 12 11 2 := ⟨RX12, TX12, 43, rfl, by decide, by decide, rfl, in_X12, RX12, tb4 78 (by decide +kernel) (by decide +kernel), Or.inl rfl⟩
theorem fw_X12_38_12 : FW RX12 38 12 11 2 (.array .int) true := ⟨RX12, TX12, 43, tyX12, rfl, by decide, by decide, rfl, in_X12, tb4 78 (by decide +kernel) (by decide +kernel), tyX12_ok, nmX12, by decide +kernel, rfl, fun h => by first | rfl | cases h⟩
theorem fk_X12_161_12 : FK RX12 161 12 12 0 := ⟨RX12, TX12, 43, rfl, by decide, by decide, rfl, in_X12, RX12, tb4 79 (by decide +kernel) (by decide +kernel), Or.inl rfl⟩
theorem fw_X12_161_12 : FW RX12 161 12 12 0 (.int) false := ⟨RX12, TX12, 43, tyX12, rfl, by decide, by decide, rfl, in_X12, tb4 79 (by decide +kernel) (by decide +kernel), tyX12_ok, nmX12, by decide +kernel, rfl, fun h => by first | rfl | cases h⟩
theorem fk_X12_41_12 : FK RX12 41 12 13 2 := ⟨RX12, TX12, 43, rfl, by decide, by decide, rfl, in_X12, RX12, tb4 80 (by decide +kernel) (by decide +kernel), Or.inl rfl⟩
theorem fw_X12_41_12 : FW RX12 41 12 13 2 (.array .int) true := ⟨RX12, TX12, 43, tyX12, rfl, by decide, by decide, rfl, in_X12, tb4 80 (by decide +kernel) (by decide +kernel), tyX12_ok, nmX12, by decide +kernel, rfl, fun h => by first | rfl | cases h⟩
theorem fk_X12_176_12 : FK RX12 176 12 14 0 := ⟨RX12, TX12, 43, rfl, by decide, by decide, rfl, in_X12, RX12, tb4 81 (by decide +kernel) (by decide +kernel), Or.inl rfl⟩
theorem fw_X12_176_12 : FW RX12 176 12 14 0 (.int) false := ⟨RX12, TX12, 43, tyX12, rfl, by decide, by decide, rfl, in_X12, tb4 81 (by decide +kernel) (by decide +kernel), tyX12_ok, nmX12, by decide +kernel, rfl, fun h => by first | rfl | cases h⟩
theorem fk_X12_167_12 : FK RX12 167 12 15 0 := ⟨RX12, TX12, 43, rfl, by decide, by decide, rfl, in_X12, RX12, tb4 82 (by decide +kernel) (by decide +kernel), Or.inl rfl⟩
theorem fw_X12_167_12 : FW RX12 167 12 15 0 (.int) false := ⟨RX12, TX12, 43, tyX12, rfl, by decide, by decide, rfl, in_X12, tb4 82 (by decide +kernel) (by decide +kernel), tyX12_ok, nmX12, by decide +kernel, rfl, fun h => by first | rfl | cases h⟩
theorem fk_X12_170_12 : FK RX12 170 12 16 0 := ⟨RX12, TX12, 43, rfl, by decide, by decide, rfl, in_X12, RX12, tb4 83 (by decide +kernel) (by decide +kernel), Or.inl rfl⟩
theorem fw_X12_170_12 : FW RX12 170 12 16 0 (.int) false := ⟨RX12, TX12, 43, tyX12, rfl, by decide, by decide, rfl, in_X12, tb4 83 (by decide +kernel) (by decide +kernel), tyX12_ok, nmX12, by decide +kernel, rfl, fun h => by first | rfl | cases h⟩
theorem fk_X12_44_12 : FK RX12 44 12 17 2 := ⟨RX12, TX12, 43, rfl, by decide, by decide, rfl, in_X12, RX12, tb4 84 (by decide +kernel) (by decide +kernel), Or.inl rfl⟩
theorem fw_X12_44_12 : FW RX12 44 12 17 2 (.array .int) true := ⟨RX12, TX12, 43, tyX12, rfl, by decide, by decide, rfl, in_X12, tb4 84 (by decide +kernel) (by decide +kernel), tyX12_ok, nmX12, by decide +kernel, rfl, fun h => by first | rfl | cases h⟩
theorem fk_X12_173_12 : FK RX12 173 12 18 0 := ⟨RX12, TX12, 43, rfl, by decide, by decide, rfl, in_X12, RX12, tb4 85 (by decide +kernel) (by decide +kernel), Or.inl rfl⟩
theorem fw_X12_173_12 : FW RX12 173 12 18 0 (.int) false := ⟨RX12, TX12, 43, tyX12, rfl, by decide, by decide, rfl, in_X12, tb4 85 (by decide +kernel) (by decide +kernel), tyX12_ok, nmX12, by decide +kernel, rfl, fun h => by first | rfl | cases h⟩
theorem fk_X12_164_12 : FK RX12 164 12 19 0 := ⟨RX12, TX12, 43, rfl, by decide, by decide, rfl, in_X12, RX12, tb4 86 (by decide +kernel) (by decide +kernel), Or.inl rfl⟩
theorem fw_X12_164_12 : FW RX12 164 12 19 0 (.int) false := ⟨RX12, TX12, 43, tyX12, rfl, by decide, by decide, rfl, in_X12, tb4 86 (by decide +kernel) (by decide +kernel), tyX12_ok, nmX12, by decide +kernel, rfl, fun h => by first | rfl | cases h⟩
theorem fk_X12_47_12 : FK RX12 47 12 20 2 := ⟨RX12, TX12, 43, rfl, by decide, by decide, rfl, in_X12, RX12, tb4 87 (by decide +kernel) (by decide +kernel), Or.inl rfl⟩
theorem fw_X12_47_12 : FW RX12 47 12 20 2 (.array .int) true := ⟨RX12, TX12, 43, tyX12, rfl, by decide, by decide, rfl, in_X12, tb4 87 (by decide +kernel) (by decide +kernel), tyX12_ok, nmX12, by decide +kernel, rfl, fun h => by first | rfl | cases h⟩
theorem fk_X12_50_12 : FK RX12 50 12 21 2 := ⟨RX12, TX12, 43, rfl, by decide, by decide, rfl, in_X12, RX12, tb4 88 (by decide +kernel) (by decide +kernel), Or.inl rfl⟩
theorem fw_X12_50_12 : FW RX12 50 12 21 2 (.array .int) true := ⟨RX12, TX12, 43, tyX12, rfl, by decide, by decide, rfl, in_X12, tb4 88 (by decide +kernel) (by decide +kernel), tyX12_ok, nmX12, by decide +kernel, rfl, fun h => by first | rfl | cases h⟩
theorem fk_X12_53_12 : FK RX12 53 12 22 2 := ⟨RX12, TX12, 43, rfl, by decide, by decide, rfl, in_X12, RX12, tb4 89 (by decide +kernel) (by decide +kernel), Or.inl rfl⟩
theorem fw_X12_53_12 : FW RX12 53 12 22 2 (.array .int) true := ⟨RX12, TX12, 43, tyX12, rfl, by decide, by decide, rfl, in_X12, tb4 89 (by decide +kernel) (by decide +kernel), tyX12_ok, nmX12, by decide +kernel, rfl, fun h => by first | rfl | cases h⟩
theorem fk_X12_56_12 : FK RX12 56 12 23 2 := ⟨RX12, TX12, 43, rfl, by decide, by decide, rfl, in_X12, RX12, tb4 90 (by decide +kernel) (by decide +kernel), Or.inl rfl⟩
theorem fw_X12_56_12 : FW RX12 56 12 23 2 (.array .int) true := ⟨RX12, TX12, 43, tyX12, rfl, by decide, by decide, rfl, in_X12, tb4 90 (by decide +kernel) (by decide +kernel), tyX12_ok, nmX12, by decide +kernel, rfl, fun h => by first | rfl | cases h⟩
theorem fk_X12_95_12 : FK RX12 95 12 24 0 := ⟨RX12, TX12, 43, rfl, by decide, by decide, rfl, in_X12, RX12, tb4 91 (by decide +kernel) (by decide +kernel), Or.inl rfl⟩
theorem fw_X12_95_12 : FW RX12 95 12 24 0 (.int) false := ⟨RX12, TX12, 43, tyX12, rfl, by decide, by decide, rfl, in_X12, tb4 91 (by decide +kernel) (by decide +kernel), tyX12_ok, nmX12, by decide +kernel, rfl, fun h => by first | rfl | cases h⟩
theorem fk_X12_193_12 : FK RX12 193 12 25 0 := ⟨RX12, TX12, 43, rfl, by decide, by decide, rfl, in_X12, RX12, tb4 92 (by decide +kernel) (by decide +kernel), Or.inl rfl⟩
theorem fw_X12_193_12 : FW RX12 193 12 25 0 (.int) false := ⟨RX12, TX12, 43, tyX12, rfl, by decide, by decide, rfl, in_X12, tb4 92 (by decide +kernel) (by decide +kernel), tyX12_ok, nmX12, by decide +kernel, rfl, fun h => by first | rfl | cases h⟩
theorem fk_X12_59_12 : FK RX12 59 12 26 2 := ⟨RX12, TX12, 43, rfl, by decide, by decide, rfl, in_X12, RX12, tb4 93 (by decide +kernel) (by decide +kernel), Or.inl rfl⟩
theorem fw_X12_59_12 : FW RX12 59 12 26 2 (.array .int) true := ⟨RX12, TX12, 43, tyX12, rfl, by decide, by decide, rfl, in_X12, tb4 93 (by decide +kernel) (by decide +kernel), tyX12_ok, nmX12, by decide +kernel, rfl, fun h => by first | rfl | cases h⟩
theorem fk_X12_196_12 : FK RX12 196 12 27 0 := ⟨RX12, TX12, 43, rfl, by decide, by decide, rfl, in_X12, RX12, tb4 94 (by decide +kernel) (by decide +kernel), Or.inl rfl⟩
theorem fw_X12_196_12 : FW RX12 196 12 27 0 (.int) false := ⟨RX12, TX12, 43, tyX12, rfl, by decide, by decide, rfl, in_X12, tb4 94 (by decide +kernel) (by decide +kernel), tyX12_ok, nmX12, by decide +kernel, rfl, fun h => by first | rfl | cases h⟩
theorem fk_X12_62_12 : FK RX12 62 12 28 2 := ⟨RX12, TX12, 43, rfl, by decide, by decide, rfl, in_X12, RX12, tb4 95 (by decide +kernel) (by decide +kernel), Or.inl rfl⟩
theorem fw_X12_62_12 : FW RX12 62 12 28 2 (.array .int) true := ⟨RX12, TX12, 43, tyX12, rfl, by decide, by decide, rfl, in_X12, tb4 95 (by decide +kernel) (by decide +kernel), tyX12_ok, nmX12, by decide +kernel, rfl, fun h => by first | rfl | cases h⟩
theorem fk_X12_65_12 : FK RX12 65 12 29 2 := ⟨RX12, TX12, 43, rfl, by decide, by decide, rfl, in_X12, RX12, tb4 96 (by decide +kernel) (by decide +kernel), Or.inl rfl⟩
theorem fw_X12_65_12 : FW RX12 65 12 29 2 (.array .int) true := ⟨RX12, TX12, 43, tyX12, rfl, by decide, by decide, rfl, in_X12, tb4 96 (by decide +kernel) (by decide +kernel), tyX12_ok, nmX12, by decide +kernel, rfl, fun h => by first | rfl | cases h⟩
theorem fk_X12_199_12 : FK RX12 199 12 30 0 := ⟨RX12, TX12, 43, rfl, by decide, by decide, rfl, in_X12, RX12, tb4 97 (by decide +kernel) (by decide +kernel), Or.inl rfl⟩
theorem fw_X12_199_12 : FW RX12 199 12 30 0 (.int) false := ⟨RX12, TX12, 43, tyX12, rfl, by decide, by decide, rfl, in_X12, tb4 97 (by decide +kernel) (by decide +kernel), tyX12_ok, nmX12, by decide +kernel, rfl, fun h => by first | rfl | cases h⟩
theorem fk_X12_68_12 : FK RX12 68 12 31 2 := ⟨RX12, TX12, 43, rfl, by decide, by decide, rfl, in_X12, RX12, tb4 98 (by decide +kernel) (by decide +kernel), Or.inl rfl⟩
theorem fw_X12_68_12 : FW RX12 68 12 31 2 (.array .int) true := ⟨RX12, TX12, 43, tyX12, rfl, by decide, by decide, rfl, in_X12, tb4 98 (by decide +kernel) (by decide +kernel), tyX12_ok, nmX12, by decide +kernel, rfl, fun h => by first | rfl | cases h⟩
theorem fk_X12_71_12 : FK RX12 71 12 32 2 := ⟨RX12, TX12, 43, rfl, by decide, by decide, rfl, in_X12, RX12, tb4 99 (by decide +kernel) (by decide +kernel), Or.inl rfl⟩
theorem fw_X12_71_12 : FW RX12 71 12 32 2 (.array .boolean) true := ⟨RX12, TX12, 43, tyX12, rfl, by decide, by decide, rfl, in_X12, tb4 99 (by decide +kernel) (by decide +kernel), tyX12_ok, nmX12, by decide +kernel, rfl, fun h => by first | rfl | cases h⟩
theorem fk_X12_74_12 : FK RX12 74 12 33 2 := ⟨RX12, TX12, 43, rfl, by decide, by decide, rfl, in_X12, RX12, tb4 100 (by decide +kernel) (by decide +kernel), Or.inl rfl⟩
theorem fw_X12_74_12 : FW RX12 74 12 33 2 (.array .boolean) true := ⟨RX12, TX12, 43, tyX12, rfl, by decide, by decide, rfl, in_X12, tb4 100 (by decide +kernel) (by decide +kernel), tyX12_ok, nmX12, by decide +kernel, rfl, fun h => by first | rfl | cases h⟩
theorem fk_X12_77_12 : FK RX12 77 12 34 2 := ⟨RX12, TX12, 43, rfl, by decide, by decide, rfl, in_X12, RX12, tb4 101 (by decide +kernel) (by decide +kernel), Or.inl rfl⟩
theorem fw_X12_77_12 : FW RX12 77 12 34 2 (.array .int) true := ⟨RX12, TX12, 43, tyX12, rfl, by decide, by decide, rfl, in_X12, tb4 101 (by decide +kernel) (by decide +kernel), tyX12_ok, nmX12, by decide +kernel, rfl, fun h => by first | rfl | cases h⟩
theorem fk_X12_238_12 : FK RX12 238 12 35 0 := ⟨RX12, TX12, 43, rfl, by decide, by decide, rfl, in_X12, RX12, tb4 102 (by decide +kernel) (by decide +kernel), Or.inl rfl⟩
theorem fw_X12_238_12 : FW RX12 238 12 35 0 (.int) false := ⟨RX12, TX12, 43, tyX12, rfl, by decide, by decide, rfl, in_X12, tb4 102 (by decide +kernel) (by decide +kernel), tyX12_ok, nmX12, by decide +kernel, rfl, fun h => by first | rfl | cases h⟩
theorem fk_X12_80_12 : FK RX12 80 12 36 2 := ⟨RX12, TX12, 43, rfl, by decide, by decide, rfl, in_X12, RX12, tb4 103 (by decide +kernel) (by decide +kernel), Or.inl rfl⟩
theorem fw_X12_80_12 : FW RX12 80 12 36 2 (.array .int) true := ⟨RX12, TX12, 43, tyX12, rfl, by decide, by decide, rfl, in_X12, tb4 103 (by decide +kernel) (by decide +kernel), tyX12_ok, nmX12, by decide +kernel, rfl, fun h => by first | rfl | cases h⟩
theorem fk_X12_83_12 : FK RX12 83 12 37 2 := ⟨RX12, TX12, 43, rfl, by decide, by decide, rfl, in_X12, RX12, tb4 104 (by decide +kernel) (by decide +kernel), Or.inl rfl⟩
theorem fw_X12_83_12 : FW RX12 83 12 37 2 (.array .int) true := ⟨RX12, TX12, 43, tyX12, rfl, by decide, by decide, rfl, in_X12, tb4 104 (by decide +kernel) (by decide +kernel), tyX12_ok, nmX12, by decide +kernel, rfl, fun h => by first | rfl | cases h⟩
theorem fk_X12_202_12 : FK RX12 202 12 38 0 := ⟨RX12, TX12, 43, rfl, by decide, by decide, rfl, in_X12, RX12, tb4 105 (by decide +kernel) (by decide +kernel), Or.inl rfl⟩
theorem fw_X12_202_12 : FW RX12 202 12 38 0 (.int) false := ⟨RX12, TX12, 43, tyX12, rfl, by decide, by decide, rfl, in_X12, tb4 105 (by decide +kernel) (by decide +kernel), tyX12_ok, nmX12, by decide +kernel, rfl, fun h => by first | rfl | cases h⟩
theorem fk_X12_86_12 : FK RX12 86 12 39 2 := ⟨RX12, TX12, 43, rfl, by decide, by decide, rfl, in_X12, RX12, tb4 106 (by decide +kernel) (by decide +kernel), Or.inl rfl⟩
theorem fw_X12_86_12 : FW RX12 86 12 39 2 (.array .int) true := ⟨RX12, TX12, 43, tyX12, rfl, by decide, by decide, rfl, in_X12, tb4 106 (by decide +kernel) (by decide +kernel), tyX12_ok, nmX12, by decide +kernel, rfl, fun h => by first | rfl | cases h⟩
theorem fk_X12_89_12 : FK RX12 89 12 40 2 := ⟨RX12, TX12, 43, rfl, by decide, by decide, rfl, in_X12, RX12, tb4 107 (by decide +kernel) (by decide +kernel), Or.inl rfl⟩
theorem fw_X12_89_12 : FW RX12 89 12 40 2 (.array .int) true := ⟨RX12, TX12, 43, tyX12, rfl, by decide, by decide, rfl, in_X12, tb4 107 (by decide +kernel) (by decide +kernel), tyX12_ok, nmX12, by decide +kernel, rfl, fun h => by first | rfl | cases h⟩
theorem fk_X12_92_12 : FK RX12 92 12 41 2 := ⟨RX12, TX12, 43, rfl, by decide, by decide, rfl, in_X12, RX12, tb4 108 (by decide +kernel) (by decide +kernel), Or.inl rfl⟩
theorem fw_X12_92_12 : FW RX12 92 12 41 2 (.array .int) true := ⟨RX12, TX12, 43, tyX12, rfl, by decide, by decide, rfl, in_X12, tb4 108 (by decide +kernel) (by decide +kernel), tyX12_ok, nmX12, by decide +kernel, rfl, fun h => by first | rfl | cases h⟩
theorem fk_X12_274_12 : FK RX12 274 12 42 0 := ⟨RX12, TX12, 43, rfl, by decide, by decide, rfl, in_X12, RX12, tb4 109 (by decide +kernel) (by decide +kernel), Or.inl rfl⟩
theorem fw_X12_274_12 : FW RX12 274 12 42 0 (.int) false := ⟨RX12, TX12, 43, tyX12, rfl, by decide, by decide, rfl, in_X12, tb4 109 (by decide +kernel) (by decide +kernel), tyX12_ok, nmX12, by decide +kernel, rfl, fun h => by first | rfl | cases h⟩
end
section
theorem fb_rng (x : Int32) : -2147483648 ≤ x.toInt ∧ x.toInt < 2147483648 := by
  have h1 := Int32.le_toInt x
  have h2 := Int32.toInt_lt x
  omega
theorem fb_bmod {z : Int} (h1 : -2147483648 ≤ z) (h2 : z < 2147483648) : z.bmod (2 ^ 32) = z := by
  rw [Int.bmod_eq_of_le (by omega) (by omega)]
theorem fb_addI {x y : Int32} (h1 : -2147483648 ≤ x.toInt + y.toInt) (h2 : x.toInt + y.toInt < 2147483648) : (x + y).toInt = x.toInt + y.toInt := by
  rw [Int32.toInt_add, fb_bmod h1 h2]
theorem fb_subI {x y : Int32} (h1 : -2147483648 ≤ x.toInt - y.toInt) (h2 : x.toInt - y.toInt < 2147483648) : (x - y).toInt = x.toInt - y.toInt := by
  rw [Int32.toInt_sub, fb_bmod h1 h2]
theorem fb_mulI {x y : Int32} (h1 : -2147483648 ≤ x.toInt * y.toInt) (h2 : x.toInt * y.toInt < 2147483648) : (x * y).toInt = x.toInt * y.toInt := by
  rw [Int32.toInt_mul, fb_bmod h1 h2]
theorem fb_negI {x : Int32} (h : x.toInt ≠ -2147483648) : (-x).toInt = -x.toInt := by
  have := fb_rng x
  rw [Int32.toInt_neg, fb_bmod (by omega) (by omega)]
theorem fb_ofI {z : Int} (h1 : -2147483648 ≤ z) (h2 : z < 2147483648) : (Int32.ofInt z).toInt = z := by
  rw [Int32.toInt_ofInt, fb_bmod h1 h2]
theorem fb_asI (x : Int32) : Int32.ofInt x.toInt = x := Int32.ofInt_toInt x
theorem fb_rngL (x : Int64) : -9223372036854775808 ≤ x.toInt ∧ x.toInt < 9223372036854775808 := by
  have h1 := Int64.le_toInt x
  have h2 := Int64.toInt_lt x
  omega
theorem fb_bmodL {z : Int} (h1 : -9223372036854775808 ≤ z) (h2 : z < 9223372036854775808) : z.bmod (2 ^ 64) = z := by
  rw [Int.bmod_eq_of_le (by omega) (by omega)]
theorem fb_addL {x y : Int64} (h1 : -9223372036854775808 ≤ x.toInt + y.toInt) (h2 : x.toInt + y.toInt < 9223372036854775808) : (x + y).toInt = x.toInt + y.toInt := by
  rw [Int64.toInt_add, fb_bmodL h1 h2]
theorem fb_subL {x y : Int64} (h1 : -9223372036854775808 ≤ x.toInt - y.toInt) (h2 : x.toInt - y.toInt < 9223372036854775808) : (x - y).toInt = x.toInt - y.toInt := by
  rw [Int64.toInt_sub, fb_bmodL h1 h2]
theorem fb_mulL {x y : Int64} (h1 : -9223372036854775808 ≤ x.toInt * y.toInt) (h2 : x.toInt * y.toInt < 9223372036854775808) : (x * y).toInt = x.toInt * y.toInt := by
  rw [Int64.toInt_mul, fb_bmodL h1 h2]
/-! ===== cuts of what is narrow already ===== -/
theorem fb_byte {x : Int32} (h1 : -128 ≤ x.toInt) (h2 : x.toInt < 128) : x.toInt8.toInt32 = x := by
  apply Int32.toInt_inj.1
  rw [Int8.toInt_toInt32, Int32.toInt_toInt8, Int.bmod_eq_of_le (by omega) (by omega)]
theorem fb_short {x : Int32} (h1 : -32768 ≤ x.toInt) (h2 : x.toInt < 32768) : x.toInt16.toInt32 = x := by
  apply Int32.toInt_inj.1
  rw [Int16.toInt_toInt32, Int32.toInt_toInt16, Int.bmod_eq_of_le (by omega) (by omega)]
theorem fb_byte_rng (x : Int32) : -128 ≤ x.toInt8.toInt32.toInt ∧ x.toInt8.toInt32.toInt < 128 := by
  rw [Int8.toInt_toInt32]
  have h1 := Int8.le_toInt x.toInt8
  have h2 := Int8.toInt_lt x.toInt8
  omega
theorem fb_short_rng (x : Int32) : -32768 ≤ x.toInt16.toInt32.toInt ∧ x.toInt16.toInt32.toInt < 32768 := by
  rw [Int16.toInt_toInt32]
  have h1 := Int16.le_toInt x.toInt16
  have h2 := Int16.toInt_lt x.toInt16
  omega
theorem fb_byte_twice (x : Int32) : x.toInt8.toInt32.toInt8.toInt32 = x.toInt8.toInt32 := fb_byte (fb_byte_rng x).1 (fb_byte_rng x).2
theorem fb_short_twice (x : Int32) : x.toInt16.toInt32.toInt16.toInt32 = x.toInt16.toInt32 := fb_short (fb_short_rng x).1 (fb_short_rng x).2
theorem addT {x y z : Int32} {a b : Int} (e : z = x + y) (hx : x.toInt = a) (hy : y.toInt = b) (h1 : -2147483648 ≤ a + b) (h2 : a + b < 2147483648) : z.toInt = a + b := by
  subst e hx hy; exact fb_addI h1 h2
theorem subT {x y z : Int32} {a b : Int} (e : z = x - y) (hx : x.toInt = a) (hy : y.toInt = b) (h1 : -2147483648 ≤ a - b) (h2 : a - b < 2147483648) : z.toInt = a - b := by
  subst e hx hy; exact fb_subI h1 h2
theorem mulT {x y z : Int32} {a b : Int} (e : z = x * y) (hx : x.toInt = a) (hy : y.toInt = b) (h1 : -2147483648 ≤ a * b) (h2 : a * b < 2147483648) : z.toInt = a * b := by
  subst e hx hy; exact fb_mulI h1 h2
theorem i2lT {x : Int32} {z : Int64} {a : Int} (e : z = x.toInt64) (hx : x.toInt = a) : z.toInt = a := by
  subst e hx; exact Int32.toInt_toInt64 x
theorem laddT {x y z : Int64} {a b : Int} (e : z = x + y) (hx : x.toInt = a) (hy : y.toInt = b) (h1 : -9223372036854775808 ≤ a + b) (h2 : a + b < 9223372036854775808) : z.toInt = a + b := by
  subst e hx hy; exact fb_addL h1 h2
theorem lsubT {x y z : Int64} {a b : Int} (e : z = x - y) (hx : x.toInt = a) (hy : y.toInt = b) (h1 : -9223372036854775808 ≤ a - b) (h2 : a - b < 9223372036854775808) : z.toInt = a - b := by
  subst e hx hy; exact fb_subL h1 h2
theorem lmulT {x y z : Int64} {a b : Int} (e : z = x * y) (hx : x.toInt = a) (hy : y.toInt = b) (h1 : -9223372036854775808 ≤ a * b) (h2 : a * b < 9223372036854775808) : z.toInt = a * b := by
  subst e hx hy; exact fb_mulL h1 h2
theorem tl_lt {a b : Int64} : a < b ↔ a.toInt < b.toInt := Int64.lt_iff_toInt_lt
theorem tl_eq {a b : Int64} : a = b ↔ a.toInt = b.toInt := ⟨fun h => by rw [h], fun h => Int64.toInt_inj.mp h⟩
theorem lc_3 {x y : Int64} {z : Int32} (e : z = lg_cmp x y) : (z.toInt = 1 ∧ y.toInt < x.toInt) ∨ (z.toInt = 0 ∧ x.toInt = y.toInt) ∨ (z.toInt = -1 ∧ x.toInt < y.toInt) := by
  subst e
  unfold lg_cmp
  by_cases h : x > y
  · rw [if_pos h]; exact Or.inl ⟨rfl, tl_lt.mp h⟩
  · rw [if_neg h]
    have h' : ¬ y.toInt < x.toInt := fun q => h (tl_lt.mpr q)
    by_cases g : x = y
    · rw [if_pos g]; exact Or.inr (Or.inl ⟨rfl, tl_eq.mp g⟩)
    · rw [if_neg g]
      have g' : ¬ x.toInt = y.toInt := fun q => g (tl_eq.mpr q)
      exact Or.inr (Or.inr ⟨rfl, by omega⟩)
theorem lcT_lt {x y : Int64} {z : Int32} (e : z = lg_cmp x y) : z.toInt < 0 ↔ x.toInt < y.toInt := by have := lc_3 e; omega
theorem lcT_ge {x y : Int64} {z : Int32} (e : z = lg_cmp x y) : 0 ≤ z.toInt ↔ y.toInt ≤ x.toInt := by have := lc_3 e; omega
theorem lcT_gt {x y : Int64} {z : Int32} (e : z = lg_cmp x y) : 0 < z.toInt ↔ y.toInt < x.toInt := by have := lc_3 e; omega
theorem lcT_le {x y : Int64} {z : Int32} (e : z = lg_cmp x y) : z.toInt ≤ 0 ↔ x.toInt ≤ y.toInt := by have := lc_3 e; omega
theorem lcT_eq {x y : Int64} {z : Int32} (e : z = lg_cmp x y) : z.toInt = 0 ↔ x.toInt = y.toInt := by have := lc_3 e; omega
theorem lcT_ne {x y : Int64} {z : Int32} (e : z = lg_cmp x y) : z.toInt ≠ 0 ↔ x.toInt ≠ y.toInt := by have := lc_3 e; omega
theorem nbool {x : Int32} (h : x.toInt = 0 ∨ x.toInt = 1) : narrow .boolean (.int x) = .int x := by
  rcases h with h | h
  · rw [show x = 0 from ti_eq.mpr h]; rfl
  · rw [show x = 1 from ti_eq.mpr h]; rfl
theorem b01 {x : Int32} (h : x.toInt = 0 ∨ x.toInt = 1) : x = 0 ∨ x = 1 := by
  rcases h with h | h
  · exact Or.inl (ti_eq.mpr h)
  · exact Or.inr (ti_eq.mpr h)
section VN
variable {G : vG} {own : String} {cc : ByteArray} {ret : Option FieldType} {ini : Bool} {d MC MS nL : Nat} {post : PT} {pc : Nat} {lo : List (Nat × Value)} {st st0 : List Value} {ce sl n : Nat} {sh : vS} {I : vI} {L : vL} {R : vR} {idx : Nat}
theorem V_ialk {i N k : Nat} {x : Int32} (hd : decode cc pc = .ok (.iaload, 1)) (hi : i < n) (hs : sh i = (13, N)) (hk : x.toInt = (k : Int)) (h1 : k < N) (kk : V G own cc ret ini d MC MS nL post (pc + 1) lo (.int (I i k) :: st) ce sl n sh I L R) : V G own cc ret ini d MC MS nL post pc lo (.int x :: .ref (ad G i) :: st) ce sl n sh I L R :=
  V_iald hd hi hs (by omega) (by omega) (by rw [hk]; exact kk)
theorem V_zalk {i N k : Nat} {x : Int32} (hd : decode cc pc = .ok (.baload, 1)) (hi : i < n) (hs : sh i = (14, N)) (hk : x.toInt = (k : Int)) (h1 : k < N) (kk : V G own cc ret ini d MC MS nL post (pc + 1) lo (.int (I i k) :: st) ce sl n sh I L R) : V G own cc ret ini d MC MS nL post pc lo (.int x :: .ref (ad G i) :: st) ce sl n sh I L R :=
  V_zald hd hi hs (by omega) (by omega) (by rw [hk]; exact kk)
theorem V_aalk {i N t j k : Nat} {x : Int32} (hd : decode cc pc = .ok (.aaload, 1)) (hi : i < n) (hs : sh i = (13 + t, N)) (ht : 2 ≤ t) (ht6 : t < 6) (hk : x.toInt = (k : Int)) (h1 : k < N) (hr : R i k = some j) (kk : V G own cc ret ini d MC MS nL post (pc + 1) lo (.ref (ad G j) :: st) ce sl n sh I L R) : V G own cc ret ini d MC MS nL post pc lo (.int x :: .ref (ad G i) :: st) ce sl n sh I L R :=
  V_aald hd hi hs ht ht6 (by omega) (by omega) (by rw [hk]; exact hr) kk
theorem V_iask {i N k : Nat} {x y : Int32} (hd : decode cc pc = .ok (.iastore, 1)) (hi : i < n) (hs : sh i = (13, N)) (hk : x.toInt = (k : Int)) (h1 : k < N) (kk : V G own cc ret ini d MC MS nL post (pc + 1) lo st ce sl n sh (up2 I i k y) L R) : V G own cc ret ini d MC MS nL post pc lo (.int y :: .int x :: .ref (ad G i) :: st) ce sl n sh I L R :=
  V_iast hd hi hs (by omega) (by omega) (by rw [hk]; exact kk)
theorem V_zask {i N k : Nat} {x y : Int32} (hy : y = 0 ∨ y = 1) (hd : decode cc pc = .ok (.bastore, 1)) (hi : i < n) (hs : sh i = (14, N)) (hk : x.toInt = (k : Int)) (h1 : k < N) (kk : V G own cc ret ini d MC MS nL post (pc + 1) lo st ce sl n sh (up2 I i k y) L R) : V G own cc ret ini d MC MS nL post pc lo (.int y :: .int x :: .ref (ad G i) :: st) ce sl n sh I L R :=
  V_zast hy hd hi hs (by omega) (by omega) (by rw [hk]; exact kk)
theorem V_mmin {x y : Int32} (hl : Cond.methodLink own idx Lib.Math.min.name ∈ vT) (hd : decode cc pc = .ok (.invokestatic idx, 3)) (hdd : 1 ≤ d) (hce : ce ≤ MC) (hsl : sl ≤ MS) (hW : (st.map fun v => v.category).sum ≤ 8) (k : ∀ z : Int32, z = (if y < x then y else x) → V G own cc ret ini d MC MS nL post (pc + 3) lo (.int z :: st) ce sl n sh I L R) : V G own cc ret ini d MC MS nL post pc lo (.int y :: .int x :: st) ce sl n sh I L R := by
  intro p e R0 s m args below meth c0 H locs ls hc hP hS hl2
  obtain ⟨h1, h2, h3, h4, h5, hts, hK, h8, h9, h10, h11, h12, h13, h14⟩ := id hc
  exact va_mmin h1 h2 (by rw [h4]; exact hl2.1.symm) h5 (hts _ hl) (hts _ mms_min) (hts _ mm_ini) (hts _ mm_min) (by omega) (by omega) (by omega) (by omega) hd (k _ rfl p e R0 s m args below meth c0 H locs ls hc hP hS hl2)
theorem V_mmaxl {x y : Int64} (hl : Cond.methodLink own idx Lib.MathLoose.max_long.x ∈ vT) (hd : decode cc pc = .ok (.invokestatic idx, 3)) (hdd : 1 ≤ d) (hce : ce ≤ MC) (hsl : sl ≤ MS) (hW : (st.map fun v => v.category).sum ≤ 8) (k : ∀ z : Int64, z = (if x < y then y else x) → V G own cc ret ini d MC MS nL post (pc + 3) lo (.long z :: st) ce sl n sh I L R) : V G own cc ret ini d MC MS nL post pc lo (.long y :: .long x :: st) ce sl n sh I L R := by
  intro p e R0 s m args below meth c0 H locs ls hc hP hS hl2
  obtain ⟨h1, h2, h3, h4, h5, hts, hK, h8, h9, h10, h11, h12, h13, h14⟩ := id hc
  exact va_mmax_long h1 h2 (by rw [h4]; exact hl2.1.symm) h5 (hts _ hl) (hts _ mms_maxl) (hts _ mm_ini) (hts _ mm_maxl) (by omega) (by omega) (by omega) (by omega) hd (k _ (by first | rfl | (split <;> split <;> first | rfl | (exfalso; rename_i q1 q2; rw [tl_lt] at q1 q2; omega) | (apply tl_eq.mpr; rename_i q1 q2; rw [tl_lt] at q1 q2; omega))) p e R0 s m args below meth c0 H locs ls hc hP hS hl2)
theorem V_mminl {x y : Int64} (hl : Cond.methodLink own idx Lib.MathLoose.min_long.x ∈ vT) (hd : decode cc pc = .ok (.invokestatic idx, 3)) (hdd : 1 ≤ d) (hce : ce ≤ MC) (hsl : sl ≤ MS) (hW : (st.map fun v => v.category).sum ≤ 8) (k : ∀ z : Int64, (z.toInt = min x.toInt y.toInt) → V G own cc ret ini d MC MS nL post (pc + 3) lo (.long z :: st) ce sl n sh I L R) : V G own cc ret ini d MC MS nL post pc lo (.long y :: .long x :: st) ce sl n sh I L R := by
  intro p e R0 s m args below meth c0 H locs ls hc hP hS hl2
  obtain ⟨h1, h2, h3, h4, h5, hts, hK, h8, h9, h10, h11, h12, h13, h14⟩ := id hc
  exact va_mmin_long h1 h2 (by rw [h4]; exact hl2.1.symm) h5 (hts _ hl) (hts _ mms_minl) (hts _ mm_ini) (hts _ mm_minl) (by omega) (by omega) (by omega) (by omega) hd (k _ (by split <;> rename_i q <;> simp only [tl_lt] at q <;> omega) p e R0 s m args below meth c0 H locs ls hc hP hS hl2)
theorem V_mabsl {x : Int64} (hl : Cond.methodLink own idx Lib.MathLoose.abs_long.x ∈ vT) (hd : decode cc pc = .ok (.invokestatic idx, 3)) (hdd : 1 ≤ d) (hce : ce ≤ MC) (hsl : sl ≤ MS) (hW : (st.map fun v => v.category).sum ≤ 8) (k : ∀ z : Int64, z = (if 0 < x then x else -x) → V G own cc ret ini d MC MS nL post (pc + 3) lo (.long z :: st) ce sl n sh I L R) : V G own cc ret ini d MC MS nL post pc lo (.long x :: st) ce sl n sh I L R := by
  intro p e R0 s m args below meth c0 H locs ls hc hP hS hl2
  obtain ⟨h1, h2, h3, h4, h5, hts, hK, h8, h9, h10, h11, h12, h13, h14⟩ := id hc
  exact va_mabs_long h1 h2 (by rw [h4]; exact hl2.1.symm) h5 (hts _ hl) (hts _ mms_absl) (hts _ mm_ini) (hts _ mm_absl) (by omega) (by omega) (by omega) (by omega) hd (k _ rfl p e R0 s m args below meth c0 H locs ls hc hP hS hl2)
end VN
section VM
variable {G : vG} {own : String} {cc : ByteArray} {ret : Option FieldType} {ini : Bool} {d MC MS nL : Nat} {post : PT} {pc : Nat} {lo : List (Nat × Value)} {st st0 : List Value} {ce sl n : Nat} {sh : vS} {I : vI} {L : vL} {R : vR}
variable {x y : MethodName} {ccy : ByteArray} {nLy k dy mc ms idx : Nat} {rety : Option FieldType} {As : List Value} {posty : PT}
/-- what the tables say of a call of x that a receiver of class C answers by y -/
def OV (own : String) (idx : Nat) (C : String) (x y : MethodName) (k : Nat) : Prop := Cond.methodLink own idx x ∈ vT ∧ Cond.sameMethod x.cls x.cls x.name x.desc ∈ vT ∧ Cond.instanceMethod ⟨x.cls, x.name, x.desc⟩ ∈ vT ∧ Cond.selects C x y ∈ vT ∧ Cond.instanceMethod y ∈ vT ∧ (∃ (b0 : ByteArray) (m0 : Nat) (r0 : Option FieldType), Cond.code ⟨x.cls, x.name, x.desc⟩ b0 m0 r0 ∈ vT) ∧ (x.cls ≠ "java/lang/invoke/MethodHandle" ∧ x.cls ≠ "java/lang/invoke/VarHandle" ∧ (parseMethodDescriptor x.desc).map (fun d => d.parameters.length) = some k)
theorem V_callO {i c : Nat} {q : vw_C} (hM : CT G y ccy nLy rety dy mc ms (.ref (ad G i) :: As) n sh I L R posty) (hF : MF y ccy nLy rety k) (ho : OV own idx q.1 x y k) (hi : i < n) (hs : (sh i).1 = c) (hc13 : c < 13) (hcl : vwCl[c]? = some q) (hd : decode cc pc = .ok (.invokevirtual idx, 3)) (hk : As.length = k) (hstk : As.reverse ++ .ref (ad G i) :: st = st0) (hdd : dy + 1 ≤ d) (hce : ce + mc ≤ MC) (hsl : sl + ms ≤ MS) (hW : (st.map fun v => v.category).sum ≤ 8)
    (kk : ∀ (r : Option Value) (n' : Nat) (sh' : vS) (I' : vI) (L' : vL) (R' : vR), posty r n' sh' I' L' R' → V G own cc ret ini d MC MS nL post (pc + 3) lo (r.toList ++ st) (ce + mc) (sl + ms) n' sh' I' L' R') : V G own cc ret ini d MC MS nL post pc lo st0 ce sl n sh I L R := by
  intro p e R0 s m args below meth c0 H locs ls hc hP hS hl2
  obtain ⟨h1, h2, h3, h4, h5, hts, hK, h8, h9, h10, h11, h12, h13, h14⟩ := id hc
  obtain ⟨o1, o2, o3, o4, o5, ⟨b0, m0, r0, o6⟩, o7⟩ := ho
  have hg : GoodIn vT (va_wsO own idx q.1 x.cls x y (Cond.code y ccy nLy rety :: vT)) := tb_sub fun w hw => by
    simp only [va_wsO, List.mem_append, List.mem_cons, List.not_mem_nil, or_false] at hw
    rcases hw with (rfl | rfl | rfl | rfl | rfl | rfl) | rfl | h
    · exact o1
    · exact o2
    · exact o3
    · exact o4
    · exact o5
    · exact hF.2.1
    · exact hF.1
    · exact h
  refine V_run (va_runU (C := q.1) (x := x) (As := As) (rest := st) ⟨h1, h2, h4, h5, hts⟩ hM (va_cwO k hts hg rfl rfl rfl o6 o7 ⟨Nat.le_trans hdd h10, by have := hF.2.2.2.2.1; show 8 + (nLy + 11) + 40 * dy ≤ R0.locals; omega⟩) ⟨CT_blind, vrecv hK.1 hP hi hs hc13 hcl, fun U hU hW2 => ⟨rfl, by rw [hU]; exact hP, vK_warm hW2 hK⟩⟩ rfl hk hl2.1 hstk.symm (lv_room hW) hd ⟨by omega, by omega⟩) hS ?_
  intro r n' sh' I' L' R' H1 locs1 hq hP1 hS1
  exact kk r n' sh' I' L' R' hq p e R0 s m args below meth c0 H1 locs1 ls hc hP1 hS1 hl2
theorem V_callSU {i c : Nat} {q : vw_C} (hM : CT G y ccy nLy rety dy mc ms (.ref (ad G i) :: As) n sh I L R posty) (hF : MF y ccy nLy rety k) (ho : Cond.methodLink own idx y ∈ vT ∧ Cond.sameMethod y.cls y.cls y.name y.desc ∈ vT ∧ Cond.superclass own y.cls ∈ vT ∧ Cond.instanceMethod y ∈ vT) (hnm : y.name ≠ "<init>") (hi : i < n) (hs : (sh i).1 = c) (hc13 : c < 13) (hcl : vwCl[c]? = some q) (hd : decode cc pc = .ok (.invokespecial idx, 3)) (hk : As.length = k) (hstk : As.reverse ++ .ref (ad G i) :: st = st0) (hdd : dy + 1 ≤ d) (hce : ce + mc ≤ MC) (hsl : sl + ms ≤ MS) (hW : (st.map fun v => v.category).sum ≤ 8)
    (kk : ∀ (r : Option Value) (n' : Nat) (sh' : vS) (I' : vI) (L' : vL) (R' : vR), posty r n' sh' I' L' R' → V G own cc ret ini d MC MS nL post (pc + 3) lo (r.toList ++ st) (ce + mc) (sl + ms) n' sh' I' L' R') : V G own cc ret ini d MC MS nL post pc lo st0 ce sl n sh I L R := by
  intro p e R0 s m args below meth c0 H locs ls hc hP hS hl2
  obtain ⟨h1, h2, h3, h4, h5, hts, hK, h8, h9, h10, h11, h12, h13, h14⟩ := id hc
  obtain ⟨o1, o2, o3, o4⟩ := ho
  have hg : GoodIn vT (va_wsSU own idx y (Cond.code y ccy nLy rety :: vT)) := tb_sub fun w hw => by
    simp only [va_wsSU, List.mem_append, List.mem_cons, List.not_mem_nil, or_false] at hw
    rcases hw with (rfl | rfl | rfl | rfl | rfl) | rfl | h
    · exact o1
    · exact o2
    · exact o3
    · exact o4
    · exact hF.2.1
    · exact hF.1
    · exact h
  refine V_run (va_runSU (C := q.1) (As := As) (rest := st) (hK.1.1 c q hcl).2 ⟨h1, h2, h4, h5, hts⟩ hM (va_cwSU k hts hg rfl rfl rfl ⟨hnm, hF.2.2.2.1⟩ ⟨Nat.le_trans hdd h10, by have := hF.2.2.2.2.1; show 8 + (nLy + 11) + 40 * dy ≤ R0.locals; omega⟩) ⟨CT_blind, vrecv hK.1 hP hi hs hc13 hcl, fun U hU hW2 => ⟨rfl, by rw [hU]; exact hP, vK_warm hW2 hK⟩⟩ rfl hk hl2.1 hstk.symm (lv_room hW) hd ⟨by omega, by omega⟩) hS ?_
  intro r n' sh' I' L' R' H1 locs1 hq hP1 hS1
  exact kk r n' sh' I' L' R' hq p e R0 s m args below meth c0 H1 locs1 ls hc hP1 hS1 hl2
theorem V_inst {i c : Nat} {q : vw_C} {nm : String} (v : Int32) (hw : Cond.classLink own idx nm ∈ vT) (hv : (v = 1 ∧ q.1 = nm) ∨ (v = 1 ∧ (q.1, nm) ∈ vCa) ∨ (v = 0 ∧ (q.1, nm) ∈ vNca)) (hi : i < n) (hs : (sh i).1 = c) (hc13 : c < 13) (hcl : vwCl[c]? = some q) (hd : decode cc pc = .ok (.instanceof idx, 3)) (kk : V G own cc ret ini d MC MS nL post (pc + 3) lo (.int v :: st) ce sl n sh I L R) : V G own cc ret ini d MC MS nL post pc lo (.ref (ad G i) :: st) ce sl n sh I L R := by
  intro p e R0 s m args below meth c0 H locs ls hc hP hS hl2
  obtain ⟨h1, h2, h3, h4, h5, hts, hK, h8, h9, h10, h11, h12, h13, h14⟩ := id hc
  have hr := vrecv hK.1 hP hi hs hc13 hcl
  have k := kk p e R0 s m args below meth c0 H locs ls hc hP hS hl2
  rcases hv with ⟨rfl, rfl⟩ | ⟨rfl, h⟩ | ⟨rfl, h⟩
  · exact va_instS h1 h2 h5 (hts _ hw) (hK.1.1 c q hcl).2 hr hd k
  · exact va_instY h1 h2 h5 (hts _ hw) (hK.2.2.1 _ h) hr hd k
  · exact va_instNo h1 h2 h5 (hts _ hw) (hK.2.2.2.1 _ h) hr hd k
theorem V_cast {i c : Nat} {q : vw_C} {nm : String} (hw : Cond.classLink own idx nm ∈ vT) (hv : q.1 = nm) (hi : i < n) (hs : (sh i).1 = c) (hc13 : c < 13) (hcl : vwCl[c]? = some q) (hd : decode cc pc = .ok (.checkcast idx, 3)) (kk : V G own cc ret ini d MC MS nL post (pc + 3) lo (.ref (ad G i) :: st) ce sl n sh I L R) : V G own cc ret ini d MC MS nL post pc lo (.ref (ad G i) :: st) ce sl n sh I L R := by
  intro p e R0 s m args below meth c0 H locs ls hc hP hS hl2
  obtain ⟨h1, h2, h3, h4, h5, hts, hK, h8, h9, h10, h11, h12, h13, h14⟩ := id hc
  subst hv
  exact va_castS h1 h2 h5 (hts _ hw) (hK.1.1 c q hcl).2 (vrecv hK.1 hP hi hs hc13 hcl) hd (kk p e R0 s m args below meth c0 H locs ls hc hP hS hl2)
end VM
end
