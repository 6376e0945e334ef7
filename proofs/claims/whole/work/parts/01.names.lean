-- ===== PART A: goes FIRST, ahead of the names: the tables' words, and 'selects' of the private methods out of them =====
/-- a private method of a class that the tables say can be made, by its rows of tables_1 -/
def lw_okq (q : MethodName × Nat) : Prop := (q.1.cls ≠ "java/lang/invoke/MethodHandle" ∧ q.1.cls ≠ "java/lang/invoke/VarHandle") ∧ Cond.instantiable q.1.cls q.2 ∈ tables_1 ∧ Cond.privateMethod q.1 ∈ tables_1 ∧ Cond.instanceMethod q.1 ∈ tables_1
theorem lw_p0 : lw_okq (⟨"StuntDesk", "countNumber", "(I)I"⟩, 3) := ⟨⟨by decide +kernel, by decide +kernel⟩, List.mem_of_getElem? (i := 17) (by decide +kernel), List.mem_of_getElem? (i := 238) (by decide +kernel), List.mem_of_getElem? (i := 239) (by decide +kernel)⟩
theorem lw_p1 : lw_okq (⟨"StuntDesk", "mixedWithPerson", "(JI)J"⟩, 3) := ⟨⟨by decide +kernel, by decide +kernel⟩, List.mem_of_getElem? (i := 17) (by decide +kernel), List.mem_of_getElem? (i := 324) (by decide +kernel), List.mem_of_getElem? (i := 325) (by decide +kernel)⟩
theorem lw_p2 : lw_okq (⟨"StuntDesk", "mixedWithScene", "(JI)J"⟩, 3) := ⟨⟨by decide +kernel, by decide +kernel⟩, List.mem_of_getElem? (i := 17) (by decide +kernel), List.mem_of_getElem? (i := 349) (by decide +kernel), List.mem_of_getElem? (i := 350) (by decide +kernel)⟩
theorem lw_p3 : lw_okq (⟨"java/lang/Throwable", "fillInStackTrace", "(I)Ljava/lang/Throwable;"⟩, 6) := ⟨⟨by decide +kernel, by decide +kernel⟩, List.mem_of_getElem? (i := 454) (by decide +kernel), List.mem_of_getElem? (i := 452) (by decide +kernel), List.mem_of_getElem? (i := 453) (by decide +kernel)⟩
theorem lw_p4 : lw_okq (⟨"StuntDesk", "requireScene", "(I)V"⟩, 3) := ⟨⟨by decide +kernel, by decide +kernel⟩, List.mem_of_getElem? (i := 17) (by decide +kernel), List.mem_of_getElem? (i := 664) (by decide +kernel), List.mem_of_getElem? (i := 665) (by decide +kernel)⟩
theorem lw_p5 : lw_okq (⟨"StuntDesk", "playPart", "(I)Z"⟩, 3) := ⟨⟨by decide +kernel, by decide +kernel⟩, List.mem_of_getElem? (i := 17) (by decide +kernel), List.mem_of_getElem? (i := 713) (by decide +kernel), List.mem_of_getElem? (i := 714) (by decide +kernel)⟩
theorem lw_p6 : lw_okq (⟨"StuntDesk", "playDays", "(I)Z"⟩, 3) := ⟨⟨by decide +kernel, by decide +kernel⟩, List.mem_of_getElem? (i := 17) (by decide +kernel), List.mem_of_getElem? (i := 729) (by decide +kernel), List.mem_of_getElem? (i := 730) (by decide +kernel)⟩
theorem lw_p7 : lw_okq (⟨"StuntDesk", "playShot", "(II)Z"⟩, 3) := ⟨⟨by decide +kernel, by decide +kernel⟩, List.mem_of_getElem? (i := 17) (by decide +kernel), List.mem_of_getElem? (i := 734) (by decide +kernel), List.mem_of_getElem? (i := 735) (by decide +kernel)⟩
theorem lw_p8 : lw_okq (⟨"StuntDesk", "playRehearsal", "(III)Z"⟩, 3) := ⟨⟨by decide +kernel, by decide +kernel⟩, List.mem_of_getElem? (i := 17) (by decide +kernel), List.mem_of_getElem? (i := 738) (by decide +kernel), List.mem_of_getElem? (i := 739) (by decide +kernel)⟩
theorem lw_p9 : lw_okq (⟨"StuntDeskModel", "fails", "(I)I"⟩, 9) := ⟨⟨by decide +kernel, by decide +kernel⟩, List.mem_of_getElem? (i := 832) (by decide +kernel), List.mem_of_getElem? (i := 874) (by decide +kernel), List.mem_of_getElem? (i := 875) (by decide +kernel)⟩
theorem lw_p10 : lw_okq (⟨"StuntDeskModel", "save", "()V"⟩, 9) := ⟨⟨by decide +kernel, by decide +kernel⟩, List.mem_of_getElem? (i := 832) (by decide +kernel), List.mem_of_getElem? (i := 888) (by decide +kernel), List.mem_of_getElem? (i := 889) (by decide +kernel)⟩
theorem lw_p11 : lw_okq (⟨"StuntDeskModel", "doesPass", "(I)I"⟩, 9) := ⟨⟨by decide +kernel, by decide +kernel⟩, List.mem_of_getElem? (i := 832) (by decide +kernel), List.mem_of_getElem? (i := 896) (by decide +kernel), List.mem_of_getElem? (i := 897) (by decide +kernel)⟩
theorem lw_p12 : lw_okq (⟨"StuntDeskModel", "isBarred", "(III)Z"⟩, 9) := ⟨⟨by decide +kernel, by decide +kernel⟩, List.mem_of_getElem? (i := 832) (by decide +kernel), List.mem_of_getElem? (i := 910) (by decide +kernel), List.mem_of_getElem? (i := 911) (by decide +kernel)⟩
theorem lw_p13 : lw_okq (⟨"StuntDeskModel", "hurtParts", "(II)I"⟩, 9) := ⟨⟨by decide +kernel, by decide +kernel⟩, List.mem_of_getElem? (i := 832) (by decide +kernel), List.mem_of_getElem? (i := 914) (by decide +kernel), List.mem_of_getElem? (i := 915) (by decide +kernel)⟩
theorem lw_p14 : lw_okq (⟨"StuntDeskModel", "ofInjury", "(II)I"⟩, 9) := ⟨⟨by decide +kernel, by decide +kernel⟩, List.mem_of_getElem? (i := 832) (by decide +kernel), List.mem_of_getElem? (i := 918) (by decide +kernel), List.mem_of_getElem? (i := 919) (by decide +kernel)⟩
theorem lw_p15 : lw_okq (⟨"StuntDeskModel", "doesRehearse", "(III)I"⟩, 9) := ⟨⟨by decide +kernel, by decide +kernel⟩, List.mem_of_getElem? (i := 832) (by decide +kernel), List.mem_of_getElem? (i := 925) (by decide +kernel), List.mem_of_getElem? (i := 926) (by decide +kernel)⟩
def lw_privs_1 : List (MethodName × Nat) := [(⟨"StuntDesk", "countNumber", "(I)I"⟩, 3), (⟨"StuntDesk", "mixedWithPerson", "(JI)J"⟩, 3), (⟨"StuntDesk", "mixedWithScene", "(JI)J"⟩, 3), (⟨"java/lang/Throwable", "fillInStackTrace", "(I)Ljava/lang/Throwable;"⟩, 6), (⟨"StuntDesk", "requireScene", "(I)V"⟩, 3), (⟨"StuntDesk", "playPart", "(I)Z"⟩, 3), (⟨"StuntDesk", "playDays", "(I)Z"⟩, 3), (⟨"StuntDesk", "playShot", "(II)Z"⟩, 3), (⟨"StuntDesk", "playRehearsal", "(III)Z"⟩, 3), (⟨"StuntDeskModel", "fails", "(I)I"⟩, 9), (⟨"StuntDeskModel", "save", "()V"⟩, 9), (⟨"StuntDeskModel", "doesPass", "(I)I"⟩, 9), (⟨"StuntDeskModel", "isBarred", "(III)Z"⟩, 9), (⟨"StuntDeskModel", "hurtParts", "(II)I"⟩, 9), (⟨"StuntDeskModel", "ofInjury", "(II)I"⟩, 9), (⟨"StuntDeskModel", "doesRehearse", "(III)I"⟩, 9)]
theorem lw_r1 : ∀ q ∈ lw_privs_1, lw_okq q := List.forall_mem_cons.mpr ⟨lw_p0, List.forall_mem_cons.mpr ⟨lw_p1, List.forall_mem_cons.mpr ⟨lw_p2, List.forall_mem_cons.mpr ⟨lw_p3, List.forall_mem_cons.mpr ⟨lw_p4, List.forall_mem_cons.mpr ⟨lw_p5, List.forall_mem_cons.mpr ⟨lw_p6, List.forall_mem_cons.mpr ⟨lw_p7, List.forall_mem_cons.mpr ⟨lw_p8, List.forall_mem_cons.mpr ⟨lw_p9, List.forall_mem_cons.mpr ⟨lw_p10, List.forall_mem_cons.mpr ⟨lw_p11, List.forall_mem_cons.mpr ⟨lw_p12, List.forall_mem_cons.mpr ⟨lw_p13, List.forall_mem_cons.mpr ⟨lw_p14, List.forall_mem_cons.mpr ⟨lw_p15, fun _ h => absurd h List.not_mem_nil⟩⟩⟩⟩⟩⟩⟩⟩⟩⟩⟩⟩⟩⟩⟩⟩
theorem lw_p16 : lw_okq (⟨"StuntDeskModel", "injure", "(III)V"⟩, 9) := ⟨⟨by decide +kernel, by decide +kernel⟩, List.mem_of_getElem? (i := 832) (by decide +kernel), List.mem_of_getElem? (i := 932) (by decide +kernel), List.mem_of_getElem? (i := 933) (by decide +kernel)⟩
theorem lw_p17 : lw_okq (⟨"StuntDeskModel", "ofScene", "(II)I"⟩, 9) := ⟨⟨by decide +kernel, by decide +kernel⟩, List.mem_of_getElem? (i := 832) (by decide +kernel), List.mem_of_getElem? (i := 943) (by decide +kernel), List.mem_of_getElem? (i := 944) (by decide +kernel)⟩
theorem lw_p18 : lw_okq (⟨"StuntDeskModel", "costOf", "(II)I"⟩, 9) := ⟨⟨by decide +kernel, by decide +kernel⟩, List.mem_of_getElem? (i := 832) (by decide +kernel), List.mem_of_getElem? (i := 951) (by decide +kernel), List.mem_of_getElem? (i := 952) (by decide +kernel)⟩
theorem lw_p19 : lw_okq (⟨"StuntDeskModel", "isScene", "(I)Z"⟩, 9) := ⟨⟨by decide +kernel, by decide +kernel⟩, List.mem_of_getElem? (i := 832) (by decide +kernel), List.mem_of_getElem? (i := 963) (by decide +kernel), List.mem_of_getElem? (i := 964) (by decide +kernel)⟩
theorem lw_p20 : lw_okq (⟨"StuntDeskModel", "reason", "(III)I"⟩, 9) := ⟨⟨by decide +kernel, by decide +kernel⟩, List.mem_of_getElem? (i := 832) (by decide +kernel), List.mem_of_getElem? (i := 967) (by decide +kernel), List.mem_of_getElem? (i := 968) (by decide +kernel)⟩
theorem lw_p21 : lw_okq (⟨"StuntDeskModel", "distance", "(II)I"⟩, 9) := ⟨⟨by decide +kernel, by decide +kernel⟩, List.mem_of_getElem? (i := 832) (by decide +kernel), List.mem_of_getElem? (i := 971) (by decide +kernel), List.mem_of_getElem? (i := 972) (by decide +kernel)⟩
theorem lw_p22 : lw_okq (⟨"StuntDeskModel", "insuredStep", "(I)I"⟩, 9) := ⟨⟨by decide +kernel, by decide +kernel⟩, List.mem_of_getElem? (i := 832) (by decide +kernel), List.mem_of_getElem? (i := 975) (by decide +kernel), List.mem_of_getElem? (i := 976) (by decide +kernel)⟩
theorem lw_p23 : lw_okq (⟨"StuntDeskModel", "hasRested", "(II)Z"⟩, 9) := ⟨⟨by decide +kernel, by decide +kernel⟩, List.mem_of_getElem? (i := 832) (by decide +kernel), List.mem_of_getElem? (i := 979) (by decide +kernel), List.mem_of_getElem? (i := 980) (by decide +kernel)⟩
theorem lw_p24 : lw_okq (⟨"StuntDeskModel", "lacks", "(III)I"⟩, 9) := ⟨⟨by decide +kernel, by decide +kernel⟩, List.mem_of_getElem? (i := 832) (by decide +kernel), List.mem_of_getElem? (i := 983) (by decide +kernel), List.mem_of_getElem? (i := 984) (by decide +kernel)⟩
theorem lw_p25 : lw_okq (⟨"StuntDeskModel", "counting", "(IIII)I"⟩, 9) := ⟨⟨by decide +kernel, by decide +kernel⟩, List.mem_of_getElem? (i := 832) (by decide +kernel), List.mem_of_getElem? (i := 990) (by decide +kernel), List.mem_of_getElem? (i := 991) (by decide +kernel)⟩
theorem lw_p26 : lw_okq (⟨"StuntDeskModel", "ofRehearsal", "(II)I"⟩, 9) := ⟨⟨by decide +kernel, by decide +kernel⟩, List.mem_of_getElem? (i := 832) (by decide +kernel), List.mem_of_getElem? (i := 994) (by decide +kernel), List.mem_of_getElem? (i := 995) (by decide +kernel)⟩
theorem lw_p27 : lw_okq (⟨"StuntDeskModel", "doesShoot", "(II)I"⟩, 9) := ⟨⟨by decide +kernel, by decide +kernel⟩, List.mem_of_getElem? (i := 832) (by decide +kernel), List.mem_of_getElem? (i := 1001) (by decide +kernel), List.mem_of_getElem? (i := 1002) (by decide +kernel)⟩
theorem lw_p28 : lw_okq (⟨"StuntDeskModel", "findError", "()I"⟩, 9) := ⟨⟨by decide +kernel, by decide +kernel⟩, List.mem_of_getElem? (i := 832) (by decide +kernel), List.mem_of_getElem? (i := 1017) (by decide +kernel), List.mem_of_getElem? (i := 1018) (by decide +kernel)⟩
theorem lw_p29 : lw_okq (⟨"StuntDeskModel", "readsPart", "()Z"⟩, 9) := ⟨⟨by decide +kernel, by decide +kernel⟩, List.mem_of_getElem? (i := 832) (by decide +kernel), List.mem_of_getElem? (i := 1021) (by decide +kernel), List.mem_of_getElem? (i := 1022) (by decide +kernel)⟩
theorem lw_p30 : lw_okq (⟨"StuntDeskModel", "takes", "(I)Z"⟩, 9) := ⟨⟨by decide +kernel, by decide +kernel⟩, List.mem_of_getElem? (i := 832) (by decide +kernel), List.mem_of_getElem? (i := 1025) (by decide +kernel), List.mem_of_getElem? (i := 1026) (by decide +kernel)⟩
theorem lw_p31 : lw_okq (⟨"StuntDeskModel", "next", "()I"⟩, 9) := ⟨⟨by decide +kernel, by decide +kernel⟩, List.mem_of_getElem? (i := 832) (by decide +kernel), List.mem_of_getElem? (i := 1029) (by decide +kernel), List.mem_of_getElem? (i := 1030) (by decide +kernel)⟩
def lw_privs_2 : List (MethodName × Nat) := [(⟨"StuntDeskModel", "injure", "(III)V"⟩, 9), (⟨"StuntDeskModel", "ofScene", "(II)I"⟩, 9), (⟨"StuntDeskModel", "costOf", "(II)I"⟩, 9), (⟨"StuntDeskModel", "isScene", "(I)Z"⟩, 9), (⟨"StuntDeskModel", "reason", "(III)I"⟩, 9), (⟨"StuntDeskModel", "distance", "(II)I"⟩, 9), (⟨"StuntDeskModel", "insuredStep", "(I)I"⟩, 9), (⟨"StuntDeskModel", "hasRested", "(II)Z"⟩, 9), (⟨"StuntDeskModel", "lacks", "(III)I"⟩, 9), (⟨"StuntDeskModel", "counting", "(IIII)I"⟩, 9), (⟨"StuntDeskModel", "ofRehearsal", "(II)I"⟩, 9), (⟨"StuntDeskModel", "doesShoot", "(II)I"⟩, 9), (⟨"StuntDeskModel", "findError", "()I"⟩, 9), (⟨"StuntDeskModel", "readsPart", "()Z"⟩, 9), (⟨"StuntDeskModel", "takes", "(I)Z"⟩, 9), (⟨"StuntDeskModel", "next", "()I"⟩, 9)]
theorem lw_r2 : ∀ q ∈ lw_privs_2, lw_okq q := List.forall_mem_cons.mpr ⟨lw_p16, List.forall_mem_cons.mpr ⟨lw_p17, List.forall_mem_cons.mpr ⟨lw_p18, List.forall_mem_cons.mpr ⟨lw_p19, List.forall_mem_cons.mpr ⟨lw_p20, List.forall_mem_cons.mpr ⟨lw_p21, List.forall_mem_cons.mpr ⟨lw_p22, List.forall_mem_cons.mpr ⟨lw_p23, List.forall_mem_cons.mpr ⟨lw_p24, List.forall_mem_cons.mpr ⟨lw_p25, List.forall_mem_cons.mpr ⟨lw_p26, List.forall_mem_cons.mpr ⟨lw_p27, List.forall_mem_cons.mpr ⟨lw_p28, List.forall_mem_cons.mpr ⟨lw_p29, List.forall_mem_cons.mpr ⟨lw_p30, List.forall_mem_cons.mpr ⟨lw_p31, fun _ h => absurd h List.not_mem_nil⟩⟩⟩⟩⟩⟩⟩⟩⟩⟩⟩⟩⟩⟩⟩⟩
theorem lw_p32 : lw_okq (⟨"StuntDeskModel", "readsDays", "()Z"⟩, 9) := ⟨⟨by decide +kernel, by decide +kernel⟩, List.mem_of_getElem? (i := 832) (by decide +kernel), List.mem_of_getElem? (i := 1033) (by decide +kernel), List.mem_of_getElem? (i := 1034) (by decide +kernel)⟩
theorem lw_p33 : lw_okq (⟨"StuntDeskModel", "readsDigit", "(III)Z"⟩, 9) := ⟨⟨by decide +kernel, by decide +kernel⟩, List.mem_of_getElem? (i := 832) (by decide +kernel), List.mem_of_getElem? (i := 1037) (by decide +kernel), List.mem_of_getElem? (i := 1038) (by decide +kernel)⟩
theorem lw_p34 : lw_okq (⟨"StuntDeskModel", "doesPart", "(I)Z"⟩, 9) := ⟨⟨by decide +kernel, by decide +kernel⟩, List.mem_of_getElem? (i := 832) (by decide +kernel), List.mem_of_getElem? (i := 1045) (by decide +kernel), List.mem_of_getElem? (i := 1046) (by decide +kernel)⟩
theorem lw_p35 : lw_okq (⟨"StuntDeskModel", "tellsPerson", "(II)I"⟩, 9) := ⟨⟨by decide +kernel, by decide +kernel⟩, List.mem_of_getElem? (i := 832) (by decide +kernel), List.mem_of_getElem? (i := 1053) (by decide +kernel), List.mem_of_getElem? (i := 1054) (by decide +kernel)⟩
theorem lw_p36 : lw_okq (⟨"StuntDeskModel", "lastHurtDay", "(I)I"⟩, 9) := ⟨⟨by decide +kernel, by decide +kernel⟩, List.mem_of_getElem? (i := 832) (by decide +kernel), List.mem_of_getElem? (i := 1057) (by decide +kernel), List.mem_of_getElem? (i := 1058) (by decide +kernel)⟩
theorem lw_p37 : lw_okq (⟨"StuntDeskModel", "barredKinds", "(I)I"⟩, 9) := ⟨⟨by decide +kernel, by decide +kernel⟩, List.mem_of_getElem? (i := 832) (by decide +kernel), List.mem_of_getElem? (i := 1061) (by decide +kernel), List.mem_of_getElem? (i := 1062) (by decide +kernel)⟩
theorem lw_p38 : lw_okq (⟨"StuntDeskModel", "tellsScene", "(II)I"⟩, 9) := ⟨⟨by decide +kernel, by decide +kernel⟩, List.mem_of_getElem? (i := 832) (by decide +kernel), List.mem_of_getElem? (i := 1077) (by decide +kernel), List.mem_of_getElem? (i := 1078) (by decide +kernel)⟩
theorem lw_p39 : lw_okq (⟨"StuntDeskModel", "cleared", "(I)I"⟩, 9) := ⟨⟨by decide +kernel, by decide +kernel⟩, List.mem_of_getElem? (i := 832) (by decide +kernel), List.mem_of_getElem? (i := 1081) (by decide +kernel), List.mem_of_getElem? (i := 1082) (by decide +kernel)⟩
theorem lw_p40 : lw_okq (⟨"StuntDeskModel", "tellsCount", "(I)I"⟩, 9) := ⟨⟨by decide +kernel, by decide +kernel⟩, List.mem_of_getElem? (i := 832) (by decide +kernel), List.mem_of_getElem? (i := 1089) (by decide +kernel), List.mem_of_getElem? (i := 1090) (by decide +kernel)⟩
theorem lw_p41 : lw_okq (⟨"StuntDeskModel", "shotScenes", "()I"⟩, 9) := ⟨⟨by decide +kernel, by decide +kernel⟩, List.mem_of_getElem? (i := 832) (by decide +kernel), List.mem_of_getElem? (i := 1093) (by decide +kernel), List.mem_of_getElem? (i := 1094) (by decide +kernel)⟩
theorem lw_p42 : lw_okq (⟨"StuntDeskModel", "openScenes", "()I"⟩, 9) := ⟨⟨by decide +kernel, by decide +kernel⟩, List.mem_of_getElem? (i := 832) (by decide +kernel), List.mem_of_getElem? (i := 1097) (by decide +kernel), List.mem_of_getElem? (i := 1098) (by decide +kernel)⟩
theorem lw_p43 : lw_okq (⟨"StuntDeskModel", "firstDay", "(II)I"⟩, 9) := ⟨⟨by decide +kernel, by decide +kernel⟩, List.mem_of_getElem? (i := 832) (by decide +kernel), List.mem_of_getElem? (i := 1109) (by decide +kernel), List.mem_of_getElem? (i := 1110) (by decide +kernel)⟩
theorem lw_p44 : lw_okq (⟨"StuntDeskModel", "bestFor", "(I)I"⟩, 9) := ⟨⟨by decide +kernel, by decide +kernel⟩, List.mem_of_getElem? (i := 832) (by decide +kernel), List.mem_of_getElem? (i := 1121) (by decide +kernel), List.mem_of_getElem? (i := 1122) (by decide +kernel)⟩
theorem lw_p45 : lw_okq (⟨"StuntDeskModel", "rankFor", "(II)I"⟩, 9) := ⟨⟨by decide +kernel, by decide +kernel⟩, List.mem_of_getElem? (i := 832) (by decide +kernel), List.mem_of_getElem? (i := 1125) (by decide +kernel), List.mem_of_getElem? (i := 1126) (by decide +kernel)⟩
theorem lw_p46 : lw_okq (⟨"StuntDeskModel", "stoppedBy", "(II)I"⟩, 9) := ⟨⟨by decide +kernel, by decide +kernel⟩, List.mem_of_getElem? (i := 832) (by decide +kernel), List.mem_of_getElem? (i := 1137) (by decide +kernel), List.mem_of_getElem? (i := 1138) (by decide +kernel)⟩
theorem lw_p47 : lw_okq (⟨"StuntDeskModel", "share", "()D"⟩, 9) := ⟨⟨by decide +kernel, by decide +kernel⟩, List.mem_of_getElem? (i := 832) (by decide +kernel), List.mem_of_getElem? (i := 1145) (by decide +kernel), List.mem_of_getElem? (i := 1146) (by decide +kernel)⟩
def lw_privs_3 : List (MethodName × Nat) := [(⟨"StuntDeskModel", "readsDays", "()Z"⟩, 9), (⟨"StuntDeskModel", "readsDigit", "(III)Z"⟩, 9), (⟨"StuntDeskModel", "doesPart", "(I)Z"⟩, 9), (⟨"StuntDeskModel", "tellsPerson", "(II)I"⟩, 9), (⟨"StuntDeskModel", "lastHurtDay", "(I)I"⟩, 9), (⟨"StuntDeskModel", "barredKinds", "(I)I"⟩, 9), (⟨"StuntDeskModel", "tellsScene", "(II)I"⟩, 9), (⟨"StuntDeskModel", "cleared", "(I)I"⟩, 9), (⟨"StuntDeskModel", "tellsCount", "(I)I"⟩, 9), (⟨"StuntDeskModel", "shotScenes", "()I"⟩, 9), (⟨"StuntDeskModel", "openScenes", "()I"⟩, 9), (⟨"StuntDeskModel", "firstDay", "(II)I"⟩, 9), (⟨"StuntDeskModel", "bestFor", "(I)I"⟩, 9), (⟨"StuntDeskModel", "rankFor", "(II)I"⟩, 9), (⟨"StuntDeskModel", "stoppedBy", "(II)I"⟩, 9), (⟨"StuntDeskModel", "share", "()D"⟩, 9)]
theorem lw_r3 : ∀ q ∈ lw_privs_3, lw_okq q := List.forall_mem_cons.mpr ⟨lw_p32, List.forall_mem_cons.mpr ⟨lw_p33, List.forall_mem_cons.mpr ⟨lw_p34, List.forall_mem_cons.mpr ⟨lw_p35, List.forall_mem_cons.mpr ⟨lw_p36, List.forall_mem_cons.mpr ⟨lw_p37, List.forall_mem_cons.mpr ⟨lw_p38, List.forall_mem_cons.mpr ⟨lw_p39, List.forall_mem_cons.mpr ⟨lw_p40, List.forall_mem_cons.mpr ⟨lw_p41, List.forall_mem_cons.mpr ⟨lw_p42, List.forall_mem_cons.mpr ⟨lw_p43, List.forall_mem_cons.mpr ⟨lw_p44, List.forall_mem_cons.mpr ⟨lw_p45, List.forall_mem_cons.mpr ⟨lw_p46, List.forall_mem_cons.mpr ⟨lw_p47, fun _ h => absurd h List.not_mem_nil⟩⟩⟩⟩⟩⟩⟩⟩⟩⟩⟩⟩⟩⟩⟩⟩
theorem lw_p48 : lw_okq (⟨"StuntDeskModel", "mix", "(J)V"⟩, 9) := ⟨⟨by decide +kernel, by decide +kernel⟩, List.mem_of_getElem? (i := 832) (by decide +kernel), List.mem_of_getElem? (i := 1154) (by decide +kernel), List.mem_of_getElem? (i := 1155) (by decide +kernel)⟩
theorem lw_p49 : lw_okq (⟨"StuntDeskModel", "mixPerson", "(I)V"⟩, 9) := ⟨⟨by decide +kernel, by decide +kernel⟩, List.mem_of_getElem? (i := 832) (by decide +kernel), List.mem_of_getElem? (i := 1159) (by decide +kernel), List.mem_of_getElem? (i := 1160) (by decide +kernel)⟩
theorem lw_p50 : lw_okq (⟨"StuntDeskModel", "mixScene", "(I)V"⟩, 9) := ⟨⟨by decide +kernel, by decide +kernel⟩, List.mem_of_getElem? (i := 832) (by decide +kernel), List.mem_of_getElem? (i := 1163) (by decide +kernel), List.mem_of_getElem? (i := 1164) (by decide +kernel)⟩
def lw_privs_4 : List (MethodName × Nat) := [(⟨"StuntDeskModel", "mix", "(J)V"⟩, 9), (⟨"StuntDeskModel", "mixPerson", "(I)V"⟩, 9), (⟨"StuntDeskModel", "mixScene", "(I)V"⟩, 9)]
theorem lw_r4 : ∀ q ∈ lw_privs_4, lw_okq q := List.forall_mem_cons.mpr ⟨lw_p48, List.forall_mem_cons.mpr ⟨lw_p49, List.forall_mem_cons.mpr ⟨lw_p50, fun _ h => absurd h List.not_mem_nil⟩⟩⟩
def lw_privs : List (MethodName × Nat) := lw_privs_1 ++ (lw_privs_2 ++ (lw_privs_3 ++ (lw_privs_4)))
def lw_tbl : List Cond := k2_sels lw_privs ++ tables_1
theorem lw_privs_ok : ∀ q ∈ lw_privs, lw_okq q := by
  show ∀ q ∈ lw_privs_1 ++ (lw_privs_2 ++ (lw_privs_3 ++ (lw_privs_4))), lw_okq q
  exact List.forall_mem_append.mpr ⟨lw_r1, List.forall_mem_append.mpr ⟨lw_r2, List.forall_mem_append.mpr ⟨lw_r3, lw_r4⟩⟩⟩
/-- the streams that the claim lets the run draw from -/
abbrev lw_cs : List Choice := [Jvm.Choice.named "NaN.bits"]
theorem lw_bits : nanBits ∈ lw_cs := by first | decide | exact List.mem_cons_self | simp [lw_cs, nanBits]
-- ===== end of PART A; then your names; then what follows =====
def RX0 : String := "StuntDesk$Injuries"
def TX0 : u_T := fun k => match k with
  | 0 => ("StuntDesk$Injuries", "kept", "I", false)
  | 1 => ("StuntDesk$Injuries", "people", "[I", true)
  | 2 => ("StuntDesk$Injuries", "parts", "[I", true)
  | _ => ("StuntDesk$Injuries", "lastDays", "[I", true)
def tyX0 : Nat → FieldType := fun k => match k with
  | 0 => .int
  | 1 => .array .int
  | 2 => .array .int
  | _ => .array .int
abbrev wsX00 : List Cond := u_ws RX0 TX0 4
theorem nmX0 : ∀ a, a < 4 → ∀ b, b < 4 → a ≠ b → (TX0 a).2.1 ≠ (TX0 b).2.1 := by decide +kernel
theorem tyX0_ok : ∀ k, k < 4 → parseFieldDescriptor (TX0 k).2.2.1 = some (tyX0 k) := by decide +kernel
abbrev cX0_init : ByteArray := prog_2_method_1_code
def yX0_init : MethodName := ⟨RX0, "<init>", "()V"⟩
abbrev cX0_keep : ByteArray := prog_2_method_2_code
def yX0_keep : MethodName := ⟨RX0, "keep", "(III)V"⟩
abbrev cX0_partsOn : ByteArray := prog_2_method_3_code
def yX0_partsOn : MethodName := ⟨RX0, "partsOn", "(II)I"⟩
abbrev cX0_lastDayFor : ByteArray := prog_2_method_4_code
def yX0_lastDayFor : MethodName := ⟨RX0, "lastDayFor", "(II)I"⟩
abbrev cX0_copyFrom : ByteArray := prog_2_method_5_code
def yX0_copyFrom : MethodName := ⟨RX0, "copyFrom", "(LStuntDesk$Injuries;)V"⟩
def RX1 : String := "StuntDesk$PlanText"
def TX1 : u_T := fun k => match k with
  | 0 => ("StuntDesk$PlanText", "length", "I", false)
  | _ => ("StuntDesk$PlanText", "codes", "[I", true)
def tyX1 : Nat → FieldType := fun k => match k with
  | 0 => .int
  | _ => .array .int
abbrev wsX10 : List Cond := u_ws RX1 TX1 2
theorem nmX1 : ∀ a, a < 2 → ∀ b, b < 2 → a ≠ b → (TX1 a).2.1 ≠ (TX1 b).2.1 := by decide +kernel
theorem tyX1_ok : ∀ k, k < 2 → parseFieldDescriptor (TX1 k).2.2.1 = some (tyX1 k) := by decide +kernel
abbrev cX1_init : ByteArray := prog_3_method_1_code
def yX1_init : MethodName := ⟨RX1, "<init>", "()V"⟩
abbrev cX1_add : ByteArray := prog_3_method_2_code
def yX1_add : MethodName := ⟨RX1, "add", "(I)V"⟩
abbrev cX1_makeEmpty : ByteArray := prog_3_method_3_code
def yX1_makeEmpty : MethodName := ⟨RX1, "makeEmpty", "()V"⟩
abbrev cX1_codeAt : ByteArray := prog_3_method_4_code
def yX1_codeAt : MethodName := ⟨RX1, "codeAt", "(I)I"⟩
abbrev cX1_digitAt : ByteArray := prog_3_method_5_code
def yX1_digitAt : MethodName := ⟨RX1, "digitAt", "(I)I"⟩
abbrev cX1_hasDigitAt : ByteArray := prog_3_method_6_code
def yX1_hasDigitAt : MethodName := ⟨RX1, "hasDigitAt", "(I)Z"⟩
abbrev cX1_daysAt : ByteArray := prog_3_method_7_code
def yX1_daysAt : MethodName := ⟨RX1, "daysAt", "(I)I"⟩
abbrev cX1_isPartStart : ByteArray := prog_3_method_8_code
def yX1_isPartStart : MethodName := ⟨RX1, "isPartStart", "(I)Z"⟩
abbrev cX1_errorPlace : ByteArray := prog_3_method_9_code
def yX1_errorPlace : MethodName := ⟨RX1, "errorPlace", "()I"⟩
abbrev cX1_isComplete : ByteArray := prog_3_method_10_code
def yX1_isComplete : MethodName := ⟨RX1, "isComplete", "()Z"⟩
abbrev cX1_placeAfter : ByteArray := prog_3_method_11_code
def yX1_placeAfter : MethodName := ⟨RX1, "placeAfter", "(II)I"⟩
abbrev cX1_placeAfterFirst : ByteArray := prog_3_method_12_code
def yX1_placeAfterFirst : MethodName := ⟨RX1, "placeAfterFirst", "(I)I"⟩
abbrev cX1_placeAfterPart : ByteArray := prog_3_method_13_code
def yX1_placeAfterPart : MethodName := ⟨RX1, "placeAfterPart", "(I)I"⟩
def RX2 : String := "StuntDesk$Rehearsals"
def TX2 : u_T := fun k => match k with
  | 0 => ("StuntDesk$Rehearsals", "kept", "I", false)
  | 1 => ("StuntDesk$Rehearsals", "people", "[I", true)
  | 2 => ("StuntDesk$Rehearsals", "kinds", "[I", true)
  | 3 => ("StuntDesk$Rehearsals", "risks", "[I", true)
  | _ => ("StuntDesk$Rehearsals", "days", "[I", true)
def tyX2 : Nat → FieldType := fun k => match k with
  | 0 => .int
  | 1 => .array .int
  | 2 => .array .int
  | 3 => .array .int
  | _ => .array .int
abbrev wsX20 : List Cond := u_ws RX2 TX2 5
theorem nmX2 : ∀ a, a < 5 → ∀ b, b < 5 → a ≠ b → (TX2 a).2.1 ≠ (TX2 b).2.1 := by decide +kernel
theorem tyX2_ok : ∀ k, k < 5 → parseFieldDescriptor (TX2 k).2.2.1 = some (tyX2 k) := by decide +kernel
abbrev cX2_init : ByteArray := prog_4_method_1_code
def yX2_init : MethodName := ⟨RX2, "<init>", "()V"⟩
abbrev cX2_keep : ByteArray := prog_4_method_2_code
def yX2_keep : MethodName := ⟨RX2, "keep", "(IIII)V"⟩
abbrev cX2_countingOn : ByteArray := prog_4_method_3_code
def yX2_countingOn : MethodName := ⟨RX2, "countingOn", "(IIII)I"⟩
abbrev cX2_copyFrom : ByteArray := prog_4_method_4_code
def yX2_copyFrom : MethodName := ⟨RX2, "copyFrom", "(LStuntDesk$Rehearsals;)V"⟩
def RX3 : String := "StuntDesk$SavedStates"
def TX3 : u_T := fun k => match k with
  | 0 => ("StuntDesk$SavedStates", "kept", "I", false)
  | _ => ("StuntDesk$SavedStates", "states", "[LStuntDesk$State;", true)
def tyX3 : Nat → FieldType := fun k => match k with
  | 0 => .int
  | _ => .array (.object "StuntDesk$State")
abbrev wsX30 : List Cond := u_ws RX3 TX3 2
theorem nmX3 : ∀ a, a < 2 → ∀ b, b < 2 → a ≠ b → (TX3 a).2.1 ≠ (TX3 b).2.1 := by decide +kernel
theorem tyX3_ok : ∀ k, k < 2 → parseFieldDescriptor (TX3 k).2.2.1 = some (tyX3 k) := by decide +kernel
abbrev cX3_init : ByteArray := prog_5_method_1_code
def yX3_init : MethodName := ⟨RX3, "<init>", "()V"⟩
abbrev cX3_keep : ByteArray := prog_5_method_2_code
def yX3_keep : MethodName := ⟨RX3, "keep", "(LStuntDesk$State;)V"⟩
abbrev cX3_dropOldest : ByteArray := prog_5_method_3_code
def yX3_dropOldest : MethodName := ⟨RX3, "dropOldest", "()V"⟩
abbrev cX3_restoreLatest : ByteArray := prog_5_method_4_code
def yX3_restoreLatest : MethodName := ⟨RX3, "restoreLatest", "(LStuntDesk$State;)V"⟩
abbrev cX3_stateAt : ByteArray := prog_5_method_5_code
def yX3_stateAt : MethodName := ⟨RX3, "stateAt", "(I)LStuntDesk$State;"⟩
def RX4 : String := "StuntDesk$Scenes"
def TX4 : u_T := fun k => match k with
  | 0 => ("StuntDesk$Scenes", "told", "I", false)
  | 1 => ("StuntDesk$Scenes", "kinds", "[I", true)
  | 2 => ("StuntDesk$Scenes", "risks", "[I", true)
  | 3 => ("StuntDesk$Scenes", "seen", "[I", true)
  | 4 => ("StuntDesk$Scenes", "shotDays", "[I", true)
  | _ => ("StuntDesk$Scenes", "doers", "[I", true)
def tyX4 : Nat → FieldType := fun k => match k with
  | 0 => .int
  | 1 => .array .int
  | 2 => .array .int
  | 3 => .array .int
  | 4 => .array .int
  | _ => .array .int
abbrev wsX40 : List Cond := u_ws RX4 TX4 6
theorem nmX4 : ∀ a, a < 6 → ∀ b, b < 6 → a ≠ b → (TX4 a).2.1 ≠ (TX4 b).2.1 := by decide +kernel
theorem tyX4_ok : ∀ k, k < 6 → parseFieldDescriptor (TX4 k).2.2.1 = some (tyX4 k) := by decide +kernel
abbrev cX4_init : ByteArray := prog_6_method_1_code
def yX4_init : MethodName := ⟨RX4, "<init>", "()V"⟩
abbrev cX4_has : ByteArray := prog_6_method_2_code
def yX4_has : MethodName := ⟨RX4, "has", "(I)Z"⟩
abbrev cX4_tell : ByteArray := prog_6_method_3_code
def yX4_tell : MethodName := ⟨RX4, "tell", "(III)I"⟩
abbrev cX4_noteShot : ByteArray := prog_6_method_4_code
def yX4_noteShot : MethodName := ⟨RX4, "noteShot", "(III)V"⟩
abbrev cX4_kindOf : ByteArray := prog_6_method_5_code
def yX4_kindOf : MethodName := ⟨RX4, "kindOf", "(I)I"⟩
abbrev cX4_riskOf : ByteArray := prog_6_method_6_code
def yX4_riskOf : MethodName := ⟨RX4, "riskOf", "(I)I"⟩
abbrev cX4_seenIn : ByteArray := prog_6_method_7_code
def yX4_seenIn : MethodName := ⟨RX4, "seenIn", "(I)I"⟩
abbrev cX4_dayOfShot : ByteArray := prog_6_method_8_code
def yX4_dayOfShot : MethodName := ⟨RX4, "dayOfShot", "(I)I"⟩
abbrev cX4_doerOf : ByteArray := prog_6_method_9_code
def yX4_doerOf : MethodName := ⟨RX4, "doerOf", "(I)I"⟩
abbrev cX4_isShot : ByteArray := prog_6_method_10_code
def yX4_isShot : MethodName := ⟨RX4, "isShot", "(I)Z"⟩
abbrev cX4_isByDouble : ByteArray := prog_6_method_11_code
def yX4_isByDouble : MethodName := ⟨RX4, "isByDouble", "(I)Z"⟩
abbrev cX4_shotOnes : ByteArray := prog_6_method_12_code
def yX4_shotOnes : MethodName := ⟨RX4, "shotOnes", "()I"⟩
abbrev cX4_shotByDoubles : ByteArray := prog_6_method_13_code
def yX4_shotByDoubles : MethodName := ⟨RX4, "shotByDoubles", "()I"⟩
abbrev cX4_shotBy : ByteArray := prog_6_method_14_code
def yX4_shotBy : MethodName := ⟨RX4, "shotBy", "(I)I"⟩
abbrev cX4_latestShotBy : ByteArray := prog_6_method_15_code
def yX4_latestShotBy : MethodName := ⟨RX4, "latestShotBy", "(I)I"⟩
abbrev cX4_shareShot : ByteArray := prog_6_method_16_code
def yX4_shareShot : MethodName := ⟨RX4, "shareShot", "()D"⟩
abbrev cX4_copyFrom : ByteArray := prog_6_method_17_code
def yX4_copyFrom : MethodName := ⟨RX4, "copyFrom", "(LStuntDesk$Scenes;)V"⟩
def RX5 : String := "StuntDesk$State"
def TX5 : u_T := fun k => match k with
  | 0 => ("StuntDesk$State", "day", "I", false)
  | 1 => ("StuntDesk$State", "purse", "I", false)
  | 2 => ("StuntDesk$State", "insuredStep", "I", false)
  | 3 => ("StuntDesk$State", "insuredTo", "I", false)
  | 4 => ("StuntDesk$State", "injuriesSoFar", "I", false)
  | 5 => ("StuntDesk$State", "rehearsalsSoFar", "I", false)
  | 6 => ("StuntDesk$State", "sizes", "[I", true)
  | 7 => ("StuntDesk$State", "rehearsalsToday", "[I", true)
  | 8 => ("StuntDesk$State", "rehearsals", "LStuntDesk$Rehearsals;", true)
  | 9 => ("StuntDesk$State", "injuries", "LStuntDesk$Injuries;", true)
  | _ => ("StuntDesk$State", "scenes", "LStuntDesk$Scenes;", true)
def tyX5 : Nat → FieldType := fun k => match k with
  | 0 => .int
  | 1 => .int
  | 2 => .int
  | 3 => .int
  | 4 => .int
  | 5 => .int
  | 6 => .array .int
  | 7 => .array .int
  | 8 => .object "StuntDesk$Rehearsals"
  | 9 => .object "StuntDesk$Injuries"
  | _ => .object "StuntDesk$Scenes"
abbrev wsX50 : List Cond := u_ws RX5 TX5 11
theorem nmX5 : ∀ a, a < 11 → ∀ b, b < 11 → a ≠ b → (TX5 a).2.1 ≠ (TX5 b).2.1 := by decide +kernel
theorem tyX5_ok : ∀ k, k < 11 → parseFieldDescriptor (TX5 k).2.2.1 = some (tyX5 k) := by decide +kernel
abbrev cX5_init : ByteArray := prog_7_method_1_code
def yX5_init : MethodName := ⟨RX5, "<init>", "()V"⟩
abbrev cX5_copyFrom : ByteArray := prog_7_method_2_code
def yX5_copyFrom : MethodName := ⟨RX5, "copyFrom", "(LStuntDesk$State;)V"⟩
abbrev cX5_changeSize : ByteArray := prog_7_method_3_code
def yX5_changeSize : MethodName := ⟨RX5, "changeSize", "(II)I"⟩
abbrev cX5_canPass : ByteArray := prog_7_method_4_code
def yX5_canPass : MethodName := ⟨RX5, "canPass", "(I)Z"⟩
abbrev cX5_letPass : ByteArray := prog_7_method_5_code
def yX5_letPass : MethodName := ⟨RX5, "letPass", "(I)V"⟩
abbrev cX5_canRehearse : ByteArray := prog_7_method_6_code
def yX5_canRehearse : MethodName := ⟨RX5, "canRehearse", "(II)Z"⟩
abbrev cX5_letRehearse : ByteArray := prog_7_method_7_code
def yX5_letRehearse : MethodName := ⟨RX5, "letRehearse", "(III)Z"⟩
abbrev cX5_noteInjury : ByteArray := prog_7_method_8_code
def yX5_noteInjury : MethodName := ⟨RX5, "noteInjury", "(III)V"⟩
abbrev cX5_scenesBarredFor : ByteArray := prog_7_method_9_code
def yX5_scenesBarredFor : MethodName := ⟨RX5, "scenesBarredFor", "(I)I"⟩
abbrev cX5_costOf : ByteArray := prog_7_method_10_code
def yX5_costOf : MethodName := ⟨RX5, "costOf", "(II)I"⟩
abbrev cX5_buyInsurance : ByteArray := prog_7_method_11_code
def yX5_buyInsurance : MethodName := ⟨RX5, "buyInsurance", "(II)V"⟩
abbrev cX5_stepOn : ByteArray := prog_7_method_12_code
def yX5_stepOn : MethodName := ⟨RX5, "stepOn", "(I)I"⟩
abbrev cX5_lastInsuredDay : ByteArray := prog_7_method_13_code
def yX5_lastInsuredDay : MethodName := ⟨RX5, "lastInsuredDay", "()I"⟩
abbrev cX5_canShoot : ByteArray := prog_7_method_14_code
def yX5_canShoot : MethodName := ⟨RX5, "canShoot", "(II)Z"⟩
abbrev cX5_letShoot : ByteArray := prog_7_method_15_code
def yX5_letShoot : MethodName := ⟨RX5, "letShoot", "(II)V"⟩
abbrev cX5_reasonOn : ByteArray := prog_7_method_16_code
def yX5_reasonOn : MethodName := ⟨RX5, "reasonOn", "(III)I"⟩
abbrev cX5_lookAlike : ByteArray := prog_7_method_17_code
def yX5_lookAlike : MethodName := ⟨RX5, "lookAlike", "(II)Z"⟩
abbrev cX5_firstClearedDay : ByteArray := prog_7_method_18_code
def yX5_firstClearedDay : MethodName := ⟨RX5, "firstClearedDay", "(II)I"⟩
abbrev cX5_rehearsalsLacking : ByteArray := prog_7_method_19_code
def yX5_rehearsalsLacking : MethodName := ⟨RX5, "rehearsalsLacking", "(II)I"⟩
abbrev cX5_bestFor : ByteArray := prog_7_method_20_code
def yX5_bestFor : MethodName := ⟨RX5, "bestFor", "(I)I"⟩
abbrev cX5_comesIntoQuestion : ByteArray := prog_7_method_21_code
def yX5_comesIntoQuestion : MethodName := ⟨RX5, "comesIntoQuestion", "(II)Z"⟩
abbrev cX5_isBetter : ByteArray := prog_7_method_22_code
def yX5_isBetter : MethodName := ⟨RX5, "isBetter", "(III)Z"⟩
abbrev cX5_sizeGap : ByteArray := prog_7_method_23_code
def yX5_sizeGap : MethodName := ⟨RX5, "sizeGap", "(II)I"⟩
abbrev cX5_clearedToday : ByteArray := prog_7_method_24_code
def yX5_clearedToday : MethodName := ⟨RX5, "clearedToday", "(I)I"⟩
abbrev cX5_scenesSomebodyCouldShoot : ByteArray := prog_7_method_25_code
def yX5_scenesSomebodyCouldShoot : MethodName := ⟨RX5, "scenesSomebodyCouldShoot", "()I"⟩
abbrev cX5_scenesStoppedBy : ByteArray := prog_7_method_26_code
def yX5_scenesStoppedBy : MethodName := ⟨RX5, "scenesStoppedBy", "(II)I"⟩
abbrev cX5_personNumber : ByteArray := prog_7_method_27_code
def yX5_personNumber : MethodName := ⟨RX5, "personNumber", "(II)I"⟩
abbrev cX5_kindsBarredToday : ByteArray := prog_7_method_28_code
def yX5_kindsBarredToday : MethodName := ⟨RX5, "kindsBarredToday", "(I)I"⟩
abbrev cX5_sceneNumber : ByteArray := prog_7_method_29_code
def yX5_sceneNumber : MethodName := ⟨RX5, "sceneNumber", "(II)I"⟩
def RX6 : String := "StuntDesk"
def TX6 : u_T := fun k => match k with
  | 0 => ("StuntDesk", "now", "LStuntDesk$State;", true)
  | 1 => ("StuntDesk", "saved", "LStuntDesk$SavedStates;", true)
  | _ => ("StuntDesk", "text", "LStuntDesk$PlanText;", true)
def tyX6 : Nat → FieldType := fun k => match k with
  | 0 => .object "StuntDesk$State"
  | 1 => .object "StuntDesk$SavedStates"
  | _ => .object "StuntDesk$PlanText"
abbrev wsX60 : List Cond := u_ws RX6 TX6 3
theorem nmX6 : ∀ a, a < 3 → ∀ b, b < 3 → a ≠ b → (TX6 a).2.1 ≠ (TX6 b).2.1 := by decide +kernel
theorem tyX6_ok : ∀ k, k < 3 → parseFieldDescriptor (TX6 k).2.2.1 = some (tyX6 k) := by decide +kernel
abbrev cX6_init : ByteArray := prog_1_method_1_code
def yX6_init : MethodName := ⟨RX6, "<init>", "()V"⟩
abbrev cX6_size : ByteArray := prog_1_method_2_code
def yX6_size : MethodName := ⟨RX6, "size", "(II)I"⟩
abbrev cX6_pass : ByteArray := prog_1_method_3_code
def yX6_pass : MethodName := ⟨RX6, "pass", "(I)I"⟩
abbrev cX6_rehearse : ByteArray := prog_1_method_4_code
def yX6_rehearse : MethodName := ⟨RX6, "rehearse", "(III)I"⟩
abbrev cX6_hurt : ByteArray := prog_1_method_5_code
def yX6_hurt : MethodName := ⟨RX6, "hurt", "(III)I"⟩
abbrev cX6_insure : ByteArray := prog_1_method_6_code
def yX6_insure : MethodName := ⟨RX6, "insure", "(II)I"⟩
abbrev cX6_scene : ByteArray := prog_1_method_7_code
def yX6_scene : MethodName := ⟨RX6, "scene", "(III)I"⟩
abbrev cX6_shoot : ByteArray := prog_1_method_8_code
def yX6_shoot : MethodName := ⟨RX6, "shoot", "(II)I"⟩
abbrev cX6_append : ByteArray := prog_1_method_9_code
def yX6_append : MethodName := ⟨RX6, "append", "(I)I"⟩
abbrev cX6_clearBuffer : ByteArray := prog_1_method_10_code
def yX6_clearBuffer : MethodName := ⟨RX6, "clearBuffer", "()I"⟩
abbrev cX6_firstError : ByteArray := prog_1_method_11_code
def yX6_firstError : MethodName := ⟨RX6, "firstError", "()I"⟩
abbrev cX6_play : ByteArray := prog_1_method_12_code
def yX6_play : MethodName := ⟨RX6, "play", "()I"⟩
abbrev cX6_undo : ByteArray := prog_1_method_13_code
def yX6_undo : MethodName := ⟨RX6, "undo", "()I"⟩
abbrev cX6_person : ByteArray := prog_1_method_14_code
def yX6_person : MethodName := ⟨RX6, "person", "(II)I"⟩
abbrev cX6_rehearsed : ByteArray := prog_1_method_15_code
def yX6_rehearsed : MethodName := ⟨RX6, "rehearsed", "(III)I"⟩
abbrev cX6_kind : ByteArray := prog_1_method_16_code
def yX6_kind : MethodName := ⟨RX6, "kind", "(III)I"⟩
abbrev cX6_sceneOf : ByteArray := prog_1_method_17_code
def yX6_sceneOf : MethodName := ⟨RX6, "sceneOf", "(II)I"⟩
abbrev cX6_count : ByteArray := prog_1_method_18_code
def yX6_count : MethodName := ⟨RX6, "count", "(I)I"⟩
abbrev cX6_refusal : ByteArray := prog_1_method_19_code
def yX6_refusal : MethodName := ⟨RX6, "refusal", "(II)I"⟩
abbrev cX6_soonest : ByteArray := prog_1_method_20_code
def yX6_soonest : MethodName := ⟨RX6, "soonest", "(II)I"⟩
abbrev cX6_lacking : ByteArray := prog_1_method_21_code
def yX6_lacking : MethodName := ⟨RX6, "lacking", "(II)I"⟩
abbrev cX6_best : ByteArray := prog_1_method_22_code
def yX6_best : MethodName := ⟨RX6, "best", "(I)I"⟩
abbrev cX6_cost : ByteArray := prog_1_method_23_code
def yX6_cost : MethodName := ⟨RX6, "cost", "(II)I"⟩
abbrev cX6_ifHurt : ByteArray := prog_1_method_24_code
def yX6_ifHurt : MethodName := ⟨RX6, "ifHurt", "(II)I"⟩
abbrev cX6_shotShare : ByteArray := prog_1_method_25_code
def yX6_shotShare : MethodName := ⟨RX6, "shotShare", "()D"⟩
abbrev cX6_digest : ByteArray := prog_1_method_26_code
def yX6_digest : MethodName := ⟨RX6, "digest", "()J"⟩
abbrev cX6_mixedWithPerson : ByteArray := prog_1_method_27_code
def yX6_mixedWithPerson : MethodName := ⟨RX6, "mixedWithPerson", "(JI)J"⟩
abbrev cX6_mixedWithScene : ByteArray := prog_1_method_28_code
def yX6_mixedWithScene : MethodName := ⟨RX6, "mixedWithScene", "(JI)J"⟩
abbrev cX6_mixed : ByteArray := prog_1_method_29_code
def yX6_mixed : MethodName := ⟨RX6, "mixed", "(JJ)J"⟩
abbrev cX6_bitsOfShare : ByteArray := prog_1_method_30_code
def yX6_bitsOfShare : MethodName := ⟨RX6, "bitsOfShare", "(D)J"⟩
abbrev cX6_countNumber : ByteArray := prog_1_method_31_code
def yX6_countNumber : MethodName := ⟨RX6, "countNumber", "(I)I"⟩
abbrev cX6_playPart : ByteArray := prog_1_method_32_code
def yX6_playPart : MethodName := ⟨RX6, "playPart", "(I)Z"⟩
abbrev cX6_playDays : ByteArray := prog_1_method_33_code
def yX6_playDays : MethodName := ⟨RX6, "playDays", "(I)Z"⟩
abbrev cX6_playShot : ByteArray := prog_1_method_34_code
def yX6_playShot : MethodName := ⟨RX6, "playShot", "(II)Z"⟩
abbrev cX6_playRehearsal : ByteArray := prog_1_method_35_code
def yX6_playRehearsal : MethodName := ⟨RX6, "playRehearsal", "(III)Z"⟩
abbrev cX6_requirePerson : ByteArray := prog_1_method_36_code
def yX6_requirePerson : MethodName := ⟨RX6, "requirePerson", "(I)V"⟩
abbrev cX6_requireKind : ByteArray := prog_1_method_37_code
def yX6_requireKind : MethodName := ⟨RX6, "requireKind", "(I)V"⟩
abbrev cX6_requireScene : ByteArray := prog_1_method_38_code
def yX6_requireScene : MethodName := ⟨RX6, "requireScene", "(I)V"⟩
abbrev cX6_requireArgument : ByteArray := prog_1_method_39_code
def yX6_requireArgument : MethodName := ⟨RX6, "requireArgument", "(Z)V"⟩
abbrev cX6_requireState : ByteArray := prog_1_method_40_code
def yX6_requireState : MethodName := ⟨RX6, "requireState", "(Z)V"⟩
abbrev cX6_isBetween : ByteArray := prog_1_method_41_code
def yX6_isBetween : MethodName := ⟨RX6, "isBetween", "(III)Z"⟩
abbrev cX6_isPart : ByteArray := prog_1_method_42_code
def yX6_isPart : MethodName := ⟨RX6, "isPart", "(I)Z"⟩
abbrev cX6_isInsurance : ByteArray := prog_1_method_43_code
def yX6_isInsurance : MethodName := ⟨RX6, "isInsurance", "(II)Z"⟩
abbrev cX6_rehearsalsNeeded : ByteArray := prog_1_method_44_code
def yX6_rehearsalsNeeded : MethodName := ⟨RX6, "rehearsalsNeeded", "(II)I"⟩
abbrev cX6_barsKind : ByteArray := prog_1_method_45_code
def yX6_barsKind : MethodName := ⟨RX6, "barsKind", "(II)Z"⟩
abbrev cX6_at : ByteArray := prog_1_method_46_code
def yX6_at : MethodName := ⟨RX6, "at", "([II)I"⟩
abbrev cX6_put : ByteArray := prog_1_method_47_code
def yX6_put : MethodName := ⟨RX6, "put", "([III)V"⟩
abbrev cX6_copyRow : ByteArray := prog_1_method_48_code
def yX6_copyRow : MethodName := ⟨RX6, "copyRow", "([I[I)V"⟩
abbrev cX6_dropFirst : ByteArray := prog_1_method_49_code
def yX6_dropFirst : MethodName := ⟨RX6, "dropFirst", "([I)V"⟩
def RX7 : String := "StuntDeskModel"
def TX7 : u_T := fun k => match k with
  | 0 => ("StuntDeskModel", "thrown", "I", false)
  | 1 => ("StuntDeskModel", "state", "[I", true)
  | 2 => ("StuntDeskModel", "saved", "[I", true)
  | 3 => ("StuntDeskModel", "savedMany", "I", false)
  | 4 => ("StuntDeskModel", "buffer", "[I", true)
  | 5 => ("StuntDeskModel", "length", "I", false)
  | 6 => ("StuntDeskModel", "at", "I", false)
  | 7 => ("StuntDeskModel", "numbers", "[I", true)
  | _ => ("StuntDeskModel", "hash", "J", false)
def tyX7 : Nat → FieldType := fun k => match k with
  | 0 => .int
  | 1 => .array .int
  | 2 => .array .int
  | 3 => .int
  | 4 => .array .int
  | 5 => .int
  | 6 => .int
  | 7 => .array .int
  | _ => .long
abbrev wsX70 : List Cond := u_ws RX7 TX7 9
theorem nmX7 : ∀ a, a < 9 → ∀ b, b < 9 → a ≠ b → (TX7 a).2.1 ≠ (TX7 b).2.1 := by decide +kernel
theorem tyX7_ok : ∀ k, k < 9 → parseFieldDescriptor (TX7 k).2.2.1 = some (tyX7 k) := by decide +kernel
abbrev cX7_init : ByteArray := prog_9_method_1_code
def yX7_init : MethodName := ⟨RX7, "<init>", "()V"⟩
abbrev cX7_thrown : ByteArray := prog_9_method_2_code
def yX7_thrown : MethodName := ⟨RX7, "thrown", "()I"⟩
abbrev cX7_fails : ByteArray := prog_9_method_3_code
def yX7_fails : MethodName := ⟨RX7, "fails", "(I)I"⟩
abbrev cX7_within : ByteArray := prog_9_method_4_code
def yX7_within : MethodName := ⟨RX7, "within", "(III)Z"⟩
abbrev cX7_isPerson : ByteArray := prog_9_method_5_code
def yX7_isPerson : MethodName := ⟨RX7, "isPerson", "(I)Z"⟩
abbrev cX7_isKind : ByteArray := prog_9_method_6_code
def yX7_isKind : MethodName := ⟨RX7, "isKind", "(I)Z"⟩
abbrev cX7_isRisk : ByteArray := prog_9_method_7_code
def yX7_isRisk : MethodName := ⟨RX7, "isRisk", "(I)Z"⟩
abbrev cX7_isPart : ByteArray := prog_9_method_8_code
def yX7_isPart : MethodName := ⟨RX7, "isPart", "(I)Z"⟩
abbrev cX7_isScene : ByteArray := prog_9_method_9_code
def yX7_isScene : MethodName := ⟨RX7, "isScene", "(I)Z"⟩
abbrev cX7_save : ByteArray := prog_9_method_10_code
def yX7_save : MethodName := ⟨RX7, "save", "()V"⟩
abbrev cX7_undo : ByteArray := prog_9_method_11_code
def yX7_undo : MethodName := ⟨RX7, "undo", "()I"⟩
abbrev cX7_needs : ByteArray := prog_9_method_12_code
def yX7_needs : MethodName := ⟨RX7, "needs", "(II)I"⟩
abbrev cX7_countsFor : ByteArray := prog_9_method_13_code
def yX7_countsFor : MethodName := ⟨RX7, "countsFor", "(I)I"⟩
abbrev cX7_barringParts : ByteArray := prog_9_method_14_code
def yX7_barringParts : MethodName := ⟨RX7, "barringParts", "(I)I"⟩
abbrev cX7_partOfRehearsal : ByteArray := prog_9_method_15_code
def yX7_partOfRehearsal : MethodName := ⟨RX7, "partOfRehearsal", "(I)I"⟩
abbrev cX7_ofInjury : ByteArray := prog_9_method_16_code
def yX7_ofInjury : MethodName := ⟨RX7, "ofInjury", "(II)I"⟩
abbrev cX7_hurtParts : ByteArray := prog_9_method_17_code
def yX7_hurtParts : MethodName := ⟨RX7, "hurtParts", "(II)I"⟩
abbrev cX7_lastHurtDay : ByteArray := prog_9_method_18_code
def yX7_lastHurtDay : MethodName := ⟨RX7, "lastHurtDay", "(I)I"⟩
abbrev cX7_isBarred : ByteArray := prog_9_method_19_code
def yX7_isBarred : MethodName := ⟨RX7, "isBarred", "(III)Z"⟩
abbrev cX7_barredKinds : ByteArray := prog_9_method_20_code
def yX7_barredKinds : MethodName := ⟨RX7, "barredKinds", "(I)I"⟩
abbrev cX7_ofRehearsal : ByteArray := prog_9_method_21_code
def yX7_ofRehearsal : MethodName := ⟨RX7, "ofRehearsal", "(II)I"⟩
abbrev cX7_counting : ByteArray := prog_9_method_22_code
def yX7_counting : MethodName := ⟨RX7, "counting", "(IIII)I"⟩
abbrev cX7_injure : ByteArray := prog_9_method_23_code
def yX7_injure : MethodName := ⟨RX7, "injure", "(III)V"⟩
abbrev cX7_doesRehearse : ByteArray := prog_9_method_24_code
def yX7_doesRehearse : MethodName := ⟨RX7, "doesRehearse", "(III)I"⟩
abbrev cX7_doesPass : ByteArray := prog_9_method_25_code
def yX7_doesPass : MethodName := ⟨RX7, "doesPass", "(I)I"⟩
abbrev cX7_ofScene : ByteArray := prog_9_method_26_code
def yX7_ofScene : MethodName := ⟨RX7, "ofScene", "(II)I"⟩
abbrev cX7_distance : ByteArray := prog_9_method_27_code
def yX7_distance : MethodName := ⟨RX7, "distance", "(II)I"⟩
abbrev cX7_insuredStep : ByteArray := prog_9_method_28_code
def yX7_insuredStep : MethodName := ⟨RX7, "insuredStep", "(I)I"⟩
abbrev cX7_hasRested : ByteArray := prog_9_method_29_code
def yX7_hasRested : MethodName := ⟨RX7, "hasRested", "(II)Z"⟩
abbrev cX7_lacks : ByteArray := prog_9_method_30_code
def yX7_lacks : MethodName := ⟨RX7, "lacks", "(III)I"⟩
abbrev cX7_reason : ByteArray := prog_9_method_31_code
def yX7_reason : MethodName := ⟨RX7, "reason", "(III)I"⟩
abbrev cX7_cleared : ByteArray := prog_9_method_32_code
def yX7_cleared : MethodName := ⟨RX7, "cleared", "(I)I"⟩
abbrev cX7_doesShoot : ByteArray := prog_9_method_33_code
def yX7_doesShoot : MethodName := ⟨RX7, "doesShoot", "(II)I"⟩
abbrev cX7_costOf : ByteArray := prog_9_method_34_code
def yX7_costOf : MethodName := ⟨RX7, "costOf", "(II)I"⟩
abbrev cX7_size : ByteArray := prog_9_method_35_code
def yX7_size : MethodName := ⟨RX7, "size", "(II)I"⟩
abbrev cX7_pass : ByteArray := prog_9_method_36_code
def yX7_pass : MethodName := ⟨RX7, "pass", "(I)I"⟩
abbrev cX7_rehearse : ByteArray := prog_9_method_37_code
def yX7_rehearse : MethodName := ⟨RX7, "rehearse", "(III)I"⟩
abbrev cX7_hurt : ByteArray := prog_9_method_38_code
def yX7_hurt : MethodName := ⟨RX7, "hurt", "(III)I"⟩
abbrev cX7_insure : ByteArray := prog_9_method_39_code
def yX7_insure : MethodName := ⟨RX7, "insure", "(II)I"⟩
abbrev cX7_scene : ByteArray := prog_9_method_40_code
def yX7_scene : MethodName := ⟨RX7, "scene", "(III)I"⟩
abbrev cX7_shoot : ByteArray := prog_9_method_41_code
def yX7_shoot : MethodName := ⟨RX7, "shoot", "(II)I"⟩
abbrev cX7_append : ByteArray := prog_9_method_42_code
def yX7_append : MethodName := ⟨RX7, "append", "(I)I"⟩
abbrev cX7_clearBuffer : ByteArray := prog_9_method_43_code
def yX7_clearBuffer : MethodName := ⟨RX7, "clearBuffer", "()I"⟩
abbrev cX7_next : ByteArray := prog_9_method_44_code
def yX7_next : MethodName := ⟨RX7, "next", "()I"⟩
abbrev cX7_takes : ByteArray := prog_9_method_45_code
def yX7_takes : MethodName := ⟨RX7, "takes", "(I)Z"⟩
abbrev cX7_readsDigit : ByteArray := prog_9_method_46_code
def yX7_readsDigit : MethodName := ⟨RX7, "readsDigit", "(III)Z"⟩
abbrev cX7_readsDays : ByteArray := prog_9_method_47_code
def yX7_readsDays : MethodName := ⟨RX7, "readsDays", "()Z"⟩
abbrev cX7_readsPart : ByteArray := prog_9_method_48_code
def yX7_readsPart : MethodName := ⟨RX7, "readsPart", "()Z"⟩
abbrev cX7_findError : ByteArray := prog_9_method_49_code
def yX7_findError : MethodName := ⟨RX7, "findError", "()I"⟩
abbrev cX7_firstError : ByteArray := prog_9_method_50_code
def yX7_firstError : MethodName := ⟨RX7, "firstError", "()I"⟩
abbrev cX7_doesPart : ByteArray := prog_9_method_51_code
def yX7_doesPart : MethodName := ⟨RX7, "doesPart", "(I)Z"⟩
abbrev cX7_play : ByteArray := prog_9_method_52_code
def yX7_play : MethodName := ⟨RX7, "play", "()I"⟩
abbrev cX7_tellsPerson : ByteArray := prog_9_method_53_code
def yX7_tellsPerson : MethodName := ⟨RX7, "tellsPerson", "(II)I"⟩
abbrev cX7_person : ByteArray := prog_9_method_54_code
def yX7_person : MethodName := ⟨RX7, "person", "(II)I"⟩
abbrev cX7_rehearsed : ByteArray := prog_9_method_55_code
def yX7_rehearsed : MethodName := ⟨RX7, "rehearsed", "(III)I"⟩
abbrev cX7_kind : ByteArray := prog_9_method_56_code
def yX7_kind : MethodName := ⟨RX7, "kind", "(III)I"⟩
abbrev cX7_tellsScene : ByteArray := prog_9_method_57_code
def yX7_tellsScene : MethodName := ⟨RX7, "tellsScene", "(II)I"⟩
abbrev cX7_sceneOf : ByteArray := prog_9_method_58_code
def yX7_sceneOf : MethodName := ⟨RX7, "sceneOf", "(II)I"⟩
abbrev cX7_shotScenes : ByteArray := prog_9_method_59_code
def yX7_shotScenes : MethodName := ⟨RX7, "shotScenes", "()I"⟩
abbrev cX7_openScenes : ByteArray := prog_9_method_60_code
def yX7_openScenes : MethodName := ⟨RX7, "openScenes", "()I"⟩
abbrev cX7_tellsCount : ByteArray := prog_9_method_61_code
def yX7_tellsCount : MethodName := ⟨RX7, "tellsCount", "(I)I"⟩
abbrev cX7_count : ByteArray := prog_9_method_62_code
def yX7_count : MethodName := ⟨RX7, "count", "(I)I"⟩
abbrev cX7_refusal : ByteArray := prog_9_method_63_code
def yX7_refusal : MethodName := ⟨RX7, "refusal", "(II)I"⟩
abbrev cX7_firstDay : ByteArray := prog_9_method_64_code
def yX7_firstDay : MethodName := ⟨RX7, "firstDay", "(II)I"⟩
abbrev cX7_soonest : ByteArray := prog_9_method_65_code
def yX7_soonest : MethodName := ⟨RX7, "soonest", "(II)I"⟩
abbrev cX7_lacking : ByteArray := prog_9_method_66_code
def yX7_lacking : MethodName := ⟨RX7, "lacking", "(II)I"⟩
abbrev cX7_rankFor : ByteArray := prog_9_method_67_code
def yX7_rankFor : MethodName := ⟨RX7, "rankFor", "(II)I"⟩
abbrev cX7_bestFor : ByteArray := prog_9_method_68_code
def yX7_bestFor : MethodName := ⟨RX7, "bestFor", "(I)I"⟩
abbrev cX7_best : ByteArray := prog_9_method_69_code
def yX7_best : MethodName := ⟨RX7, "best", "(I)I"⟩
abbrev cX7_cost : ByteArray := prog_9_method_70_code
def yX7_cost : MethodName := ⟨RX7, "cost", "(II)I"⟩
abbrev cX7_stoppedBy : ByteArray := prog_9_method_71_code
def yX7_stoppedBy : MethodName := ⟨RX7, "stoppedBy", "(II)I"⟩
abbrev cX7_ifHurt : ByteArray := prog_9_method_72_code
def yX7_ifHurt : MethodName := ⟨RX7, "ifHurt", "(II)I"⟩
abbrev cX7_share : ByteArray := prog_9_method_73_code
def yX7_share : MethodName := ⟨RX7, "share", "()D"⟩
abbrev cX7_shotShare : ByteArray := prog_9_method_74_code
def yX7_shotShare : MethodName := ⟨RX7, "shotShare", "()D"⟩
abbrev cX7_mix : ByteArray := prog_9_method_75_code
def yX7_mix : MethodName := ⟨RX7, "mix", "(J)V"⟩
abbrev cX7_mixPerson : ByteArray := prog_9_method_76_code
def yX7_mixPerson : MethodName := ⟨RX7, "mixPerson", "(I)V"⟩
abbrev cX7_mixScene : ByteArray := prog_9_method_77_code
def yX7_mixScene : MethodName := ⟨RX7, "mixScene", "(I)V"⟩
abbrev cX7_digest : ByteArray := prog_9_method_78_code
def yX7_digest : MethodName := ⟨RX7, "digest", "()J"⟩
def RJxe99ae : String := "java/lang/Double"
def TJxe99ae : u_T := fun k => match k with
  | _ => ("", "", "", false)
def tyJxe99ae : Nat → FieldType := fun k => match k with
  | _ => .int
abbrev wsJxe99ae0 : List Cond := u_ws RJxe99ae TJxe99ae 0
theorem nmJxe99ae : ∀ a, a < 0 → ∀ b, b < 0 → a ≠ b → (TJxe99ae a).2.1 ≠ (TJxe99ae b).2.1 := by decide +kernel
theorem tyJxe99ae_ok : ∀ k, k < 0 → parseFieldDescriptor (TJxe99ae k).2.2.1 = some (tyJxe99ae k) := by decide +kernel
abbrev cJxe99ae_isNaN_b9ae7 : ByteArray := prog_10_method_6_code
def yJxe99ae_isNaN_b9ae7 : MethodName := ⟨RJxe99ae, "isNaN", "(D)Z"⟩
abbrev cJxe99ae_doubleToLongBits_ccdee : ByteArray := prog_10_method_23_code
def yJxe99ae_doubleToLongBits_ccdee : MethodName := ⟨RJxe99ae, "doubleToLongBits", "(D)J"⟩
def RJ0 : String := "java/lang/String"
def TJ0 : u_T := fun k => match k with
  | _ => ("", "", "", false)
def tyJ0 : Nat → FieldType := fun k => match k with
  | _ => .int
abbrev wsJ00 : List Cond := u_ws RJ0 TJ0 0
theorem nmJ0 : ∀ a, a < 0 → ∀ b, b < 0 → a ≠ b → (TJ0 a).2.1 ≠ (TJ0 b).2.1 := by decide +kernel
theorem tyJ0_ok : ∀ k, k < 0 → parseFieldDescriptor (TJ0 k).2.2.1 = some (tyJ0 k) := by decide +kernel
def RL : String := "StuntDeskLaw"
abbrev cL_size : ByteArray := method_3_code
def yL_size : MethodName := ⟨RL, "size", "(LStuntDesk;II[J)I"⟩
abbrev cL_pass : ByteArray := method_4_code
def yL_pass : MethodName := ⟨RL, "pass", "(LStuntDesk;I[J)I"⟩
abbrev cL_rehearse : ByteArray := method_5_code
def yL_rehearse : MethodName := ⟨RL, "rehearse", "(LStuntDesk;III[J)I"⟩
abbrev cL_hurt : ByteArray := method_6_code
def yL_hurt : MethodName := ⟨RL, "hurt", "(LStuntDesk;III[J)I"⟩
abbrev cL_insure : ByteArray := method_7_code
def yL_insure : MethodName := ⟨RL, "insure", "(LStuntDesk;II[J)I"⟩
abbrev cL_scene : ByteArray := method_8_code
def yL_scene : MethodName := ⟨RL, "scene", "(LStuntDesk;III[J)I"⟩
abbrev cL_shoot : ByteArray := method_9_code
def yL_shoot : MethodName := ⟨RL, "shoot", "(LStuntDesk;II[J)I"⟩
abbrev cL_append : ByteArray := method_10_code
def yL_append : MethodName := ⟨RL, "append", "(LStuntDesk;I[J)I"⟩
abbrev cL_play : ByteArray := method_11_code
def yL_play : MethodName := ⟨RL, "play", "(LStuntDesk;[J)I"⟩
abbrev cL_undo : ByteArray := method_12_code
def yL_undo : MethodName := ⟨RL, "undo", "(LStuntDesk;[J)I"⟩
abbrev cL_person : ByteArray := method_13_code
def yL_person : MethodName := ⟨RL, "person", "(LStuntDesk;II[J)I"⟩
abbrev cL_rehearsed : ByteArray := method_14_code
def yL_rehearsed : MethodName := ⟨RL, "rehearsed", "(LStuntDesk;III[J)I"⟩
abbrev cL_kind : ByteArray := method_15_code
def yL_kind : MethodName := ⟨RL, "kind", "(LStuntDesk;III[J)I"⟩
abbrev cL_sceneOf : ByteArray := method_16_code
def yL_sceneOf : MethodName := ⟨RL, "sceneOf", "(LStuntDesk;II[J)I"⟩
abbrev cL_count : ByteArray := method_17_code
def yL_count : MethodName := ⟨RL, "count", "(LStuntDesk;I[J)I"⟩
abbrev cL_refusal : ByteArray := method_18_code
def yL_refusal : MethodName := ⟨RL, "refusal", "(LStuntDesk;II[J)I"⟩
abbrev cL_soonest : ByteArray := method_19_code
def yL_soonest : MethodName := ⟨RL, "soonest", "(LStuntDesk;II[J)I"⟩
abbrev cL_lacking : ByteArray := method_20_code
def yL_lacking : MethodName := ⟨RL, "lacking", "(LStuntDesk;II[J)I"⟩
abbrev cL_best : ByteArray := method_21_code
def yL_best : MethodName := ⟨RL, "best", "(LStuntDesk;I[J)I"⟩
abbrev cL_cost : ByteArray := method_22_code
def yL_cost : MethodName := ⟨RL, "cost", "(LStuntDesk;II[J)I"⟩
abbrev cL_ifHurt : ByteArray := method_23_code
def yL_ifHurt : MethodName := ⟨RL, "ifHurt", "(LStuntDesk;II[J)I"⟩
abbrev cL_law : ByteArray := code
def yL_law : MethodName := ⟨RL, "law", "([I)Z"⟩
abbrev vwCl : List vw_C := [(RX0, TX0, 4), (RX1, TX1, 2), (RX2, TX2, 5), (RX3, TX3, 2), (RX4, TX4, 6), (RX5, TX5, 11), (RX6, TX6, 3), (RX7, TX7, 9)]
