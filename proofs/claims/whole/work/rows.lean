section
-- ===== PART A: goes FIRST, ahead of the names: the tables' words, and 'selects' of the private methods out of them =====
/-- a private method of a class that the tables say can be made, by its rows of tables_1 -/
def lw_okq (q : MethodName × Nat) : Prop := (q.1.cls ≠ "java/lang/invoke/MethodHandle" ∧ q.1.cls ≠ "java/lang/invoke/VarHandle") ∧ Cond.instantiable q.1.cls q.2 ∈ tables_1 ∧ Cond.privateMethod q.1 ∈ tables_1 ∧ Cond.instanceMethod q.1 ∈ tables_1
theorem lw_p0 : lw_okq (⟨"StuntDesk", "countNumber", "(I)I"⟩, 3) := ⟨⟨by decide +kernel, by decide +kernel⟩, List.mem_of_getElem? (i := 17) (by decide +kernel), List.mem_of_getElem? (i := 238) (by decide +kernel), List.mem_of_getElem? (i := 239) (by decide +kernel)⟩
theorem lw_p1 : lw_okq (⟨"StuntDesk", "mixedWithPerson", "(JI)J"⟩, 3) := ⟨⟨by decide +kernel, by decide +kernel⟩, List.mem_of_getElem? (i := 17) (by decide +kernel), List.mem_of_getElem? (i := 324) (by decide +kernel), List.mem_of_getElem? (i := 325) (by decide +kernel)⟩
theorem lw_p2 : lw_okq (⟨"StuntDesk", "mixedWithScene", "(JI)J"⟩, 3) := ⟨⟨by decide +kernel, by decide +kernel⟩, List.mem_of_getElem? (i := 17) (by decide +kernel), List.mem_of_getElem? (i := 349) (by decide +kernel), List.mem_of_getElem? (i := 350) (by decide +kernel)⟩
theorem lw_p3 : lw_okq (⟨"java/lang/Throwable", "fillInStackTrace", "(I)Ljava/lang/Throwable;"⟩, 6) := ⟨⟨by decide +kernel, by decide +kernel⟩, List.mem_of_getElem? (i := 454) (by decide +kernel), List.mem_of_getElem? (i := 452) (by decide +kernel), List.mem_of_getElem? (i := 453) (by decide +kernel)⟩
theorem lw_p4 : lw_okq (⟨"StuntDesk", "requireScene", "(I)V"⟩, 3) := ⟨⟨by decide +kernel, by decide +kernel⟩, List.mem_of_getElem? (i := 17) (by decide +kernel), List.mem_of_getElem? (i := 664) (by decide +kernel), List.mem_of_getElem? (i := 665) (by decide +kernel)⟩
theorem lw_p5 : lw_okq (⟨"StuntDesk", "playPart", "(I)Z"⟩, 3) := ⟨⟨by decide +kernel, by decide +kernel⟩, List.mem_of_getElem? (i := 17) (by decide +kernel), List.mem_of_getElem? (i := 713) (by decide +kernel), List.mem_of_getElem? (i := 714) (by decide +kernel)⟩
theorem lw_p6 : lw_okq (⟨"StuntDesk", "playDays", "(I)Z"⟩, 3) := ⟨⟨by decide +kernel, by decide +kernel⟩, List.mem_of_getElem? (i := 17) (by decide +kernel), List.mem_of_getElem? (i := 729) (by decide +kernel), List.mem_of_getElem? (i := 730) (by decide +kernel)⟩
theorem lw_p7 : lw_okq (⟨"StuntDesk", "playShot", "(II)Z"⟩, 3) := ⟨⟨by decide +kernel, by decide +kernel⟩, List.mem_of_getElem? (i := 17) (by decide +kernel), List.mem_of_getElem? (i := 734) (by decide +kernel), List.mem_of_getElem? (i := 735) (by decide +kernel)⟩
theorem lw_p8 : lw_okq (⟨"StuntDesk", "playRehearsal", "(III)Z"⟩, 3) := ⟨⟨by decide +kernel, by decide +kernel⟩, List.mem_of_getElem? (i := 17) (by decide +kernel), List.mem_of_getElem? (i := 738) (by decide +kernel), List.mem_of_getElem? (i := 739) (by decide +kernel)⟩
theorem lw_p9 : lw_okq (⟨"StuntDeskModel", "fails", "(I)I"⟩, 9) := ⟨⟨by decide +kernel, by decide +kernel⟩, List.mem_of_getElem? (i := 832) (by decide +kernel), List.mem_of_getElem? (i := 874) (by decide +kernel), List.mem_of_getElem? (i := 875) (by decide +kernel)⟩
theorem lw_p10 : lw_okq (⟨"StuntDeskModel", "save", "()V"⟩, 9) := ⟨⟨by decide +kernel, by decide +kernel⟩, List.mem_of_getElem? (i := 832) (by decide +kernel), List.mem_of_getElem? (i := 888) (by decide +kernel), List.mem_of_getElem? (i := 889) (by decide +kernel)⟩
theorem lw_p11 : lw_okq (⟨"StuntDeskModel", "doesPass", "(I)I"⟩, 9) := ⟨⟨by decide +kernel, by decide +kernel⟩, List.mem_of_getElem? (i := 832) (by decide +kernel), List.mem_of_getElem? (i := 896) (by decide +kernel), List.mem_of_getElem? (i := 897) (by decide +kernel)⟩
theorem lw_p12 : lw_okq (⟨"StuntDeskModel", "isBarred", "(III)Z"⟩, 9) := ⟨⟨by decide +kernel, by decide +kernel⟩, List.mem_of_getElem? (i := 832) (by decide +kernel), List.mem_of_getElem? (i := 910) (by decide +kernel), List.mem_of_getElem? (i := 911) (by decide +kernel)⟩
theorem lw_p13 : lw_okq (⟨"StuntDeskModel", "hurtParts", "(II)I"⟩, 9) := ⟨⟨by decide +kernel, by decide +kernel⟩, List.mem_of_getElem? (i := 832) (by decide +kernel), List.mem_of_getElem? (i := 914) (by decide +kernel), List.mem_of_getElem? (i := 915) (by decide +kernel)⟩
theorem lw_p14 : lw_okq (⟨"StuntDeskModel", "ofInjury", "(II)I"⟩, 9) := ⟨⟨by decide +kernel, by decide +kernel⟩, List.mem_of_getElem? (i := 832) (by decide +kernel), List.mem_of_getElem? (i := 918) (by decide +kernel), List.mem_of_getElem? (i := 919) (by decide +kernel)⟩
theorem lw_p15 : lw_okq (⟨"StuntDeskModel", "doesRehearse", "(III)I"⟩, 9) := ⟨⟨by decide +kernel, by decide +kernel⟩, List.mem_of_getElem? (i := 832) (by decide +kernel), List.mem_of_getElem? (i := 925) (by decide +kernel), List.mem_of_getElem? (i := 926) (by decide +kernel)⟩
def lw_privs_1 : List (MethodName × Nat) := [(⟨"StuntDesk", "countNumber", "(I)I"⟩, 3), (⟨"StuntDesk", "mixedWithPerson", "(JI)J"⟩, 3), (⟨"StuntDesk", "mixedWithScene", "(JI)J"⟩, 3), (⟨"java/lang/Throwable", "fillInStackTrace", "(I)Ljava/lang/Throwable;"⟩, 6), (⟨"StuntDesk", "requireScene", "(I)V"⟩, 3), (⟨"StuntDesk", "playPart", "(I)Z"⟩, 3), (⟨"StuntDesk", "playDays", "(I)Z"⟩, 3), (⟨"StuntDesk", "playShot", "(II)Z"⟩, 3), (⟨"StuntDesk", "playRehearsal", "(III)Z"⟩, 3), (⟨"StuntDeskModel", "fails", "(I)I"⟩, 9), (⟨"StuntDeskModel", "save", "()V"⟩, 9), (⟨"StuntDeskModel", "doesPass", "(I)I"⟩, 9), (⟨"StuntDeskModel", "isBarred", "(III)Z"⟩, 9), (⟨"StuntDeskModel", "hurtParts", "(II)I"⟩, 9), (⟨"StuntDeskModel", "ofInjury", "(II)I"⟩, 9), (⟨"StuntDeskModel", "doesRehearse", "(III)I"⟩, 9)]
theorem lw_r1 : ∀ q ∈ lw_privs_1, lw_okq q := List.forall_mem_cons.mpr ⟨lw_p0, List.forall_mem_cons.mpr ⟨lw_p1, List.forall_mem_cons.mpr ⟨lw_p2, List.forall_mem_cons.mpr ⟨lw_p3, List.forall_mem_cons.mpr ⟨lw_p4, List.forall_mem_cons.mpr ⟨lw_p5, List.forall_mem_cons.mpr ⟨lw_p6, List.forall_mem_cons.mpr ⟨lw_p7, List.forall_mem_cons.mpr ⟨lw_p8, List.forall_mem_cons.mpr ⟨lw_p9, List.forall_mem_cons.mpr ⟨lw_p10, List.forall_mem_cons.mpr ⟨lw_p11, List.forall_mem_cons.mpr ⟨lw_p12, List.forall_mem_cons.mpr ⟨lw_p13, List.forall_mem_cons.mpr ⟨lw_p14, List.forall_mem_cons.mpr ⟨lw_p15, fun _ h => absurd h List.not_mem_nil⟩⟩⟩⟩⟩⟩⟩⟩⟩⟩⟩⟩⟩⟩⟩⟩
theorem lw_p16 : lw_okq (⟨"StuntDeskModel", "injure", "(III)V"⟩, 9) := ⟨⟨by decide +kernel, by decide +kernel⟩, List.mem_of_getElem? (i := 832) (by decide +kernel), List.mem_of_getElem? (i := 932) (by decide +kernel), List.mem_of_getElem? (i := 933) (by decide +kernel)⟩
theorem lw_p17 : lw_okq (⟨"StuntDeskModel", "ofScene", "(II)I"⟩, 9) := ⟨⟨by decide +kernel, by decide +kernel⟩, List.mem_of_getElem? (i := 832) (by decide +kernel), List.mem_of_getElem? (i := 943) (by decide +kernel), List.mem_of_getElem? (i := 944) (by decide +kernel)⟩
theorem lw_p18 : lw_okq (⟨"StuntDeskModel", "costOf", "(II)I"⟩, 9) := ⟨⟨by decide +kernel, by decide +kernel⟩, List.mem_of_getElem? (i := 832) (by decide +kernel), List.mem_of_getElem? (i := 951) (by decide +kernel), List.mem_of_getElem? (i := 952) (by decide +kernel)⟩
theorem lw_p19 : lw_okq (⟨"StuntDeskModel", "isScene", "(I)Z"⟩, 9) := ⟨⟨by decide +kernel, by decide +kernel⟩, List.mem_of_getElem? (i := 832) (by decide +kernel), List.mem_of_getElem? (i := 963) (by decide +kernel), List.mem_of_getElem? (i := 964) (by decide +kernel)⟩
theorem lw_p20 : lw_okq (⟨"StuntDeskModel", "reason", "(III)I"⟩, 9) := ⟨⟨by decide +kernel, by decide +kernel⟩, List.mem_of_getElem? (i := 832) (by decide +kernel), List.mem_of_getElem? (i := 967) (by decide +kernel), List.mem_of_getElem? (i := 968) (by decide +kernel)⟩
theorem lw_p21 : lw_okq (⟨"StuntDeskModel", "distance", "(II)I"⟩, 9) := ⟨⟨by decide +kernel, by decide +kernel⟩, List.mem_of_getElem? (i := 832) (by decide +kernel), List.mem_of_getElem? (i := 971) (by decide +kernel), List.mem_of_getElem? (i := 972) (by decide +kernel)⟩
theorem lw_p22 : lw_okq (⟨"StuntDeskModel", "insuredStep", "(I)I"⟩, 9) := ⟨⟨by decide +kernel, by decide +kernel⟩, List.mem_of_getElem? (i := 832) (by decide +kernel), List.mem_of_getElem? (i := 975) (by decide +kernel), List.mem_of_getElem? (i := 976) (by decide +kernel)⟩
theorem lw_p23 : lw_okq (⟨"StuntDeskModel", "hasRested", "(II)Z"⟩, 9) := ⟨⟨by decide +kernel, by decide +kernel⟩, List.mem_of_getElem? (i := 832) (by decide +kernel), List.mem_of_getElem? (i := 979) (by decide +kernel), List.mem_of_getElem? (i := 980) (by decide +kernel)⟩
theorem lw_p24 : lw_okq (⟨"StuntDeskModel", "lacks", "(III)I"⟩, 9) := ⟨⟨by decide +kernel, by decide +kernel⟩, List.mem_of_getElem? (i := 832) (by decide +kernel), List.mem_of_getElem? (i := 983) (by decide +kernel), List.mem_of_getElem? (i := 984) (by decide +kernel)⟩
theorem lw_p25 : lw_okq (⟨"StuntDeskModel", "counting", "(IIII)I"⟩, 9) := ⟨⟨by decide +kernel, by decide +kernel⟩, List.mem_of_getElem? (i := 832) (by decide +kernel), List.mem_of_getElem? (i := 990) (by decide +kernel), List.mem_of_getElem? (i := 991) (by decide +kernel)⟩
theorem lw_p26 : lw_okq (⟨"StuntDeskModel", "ofRehearsal", "(II)I"⟩, 9) := ⟨⟨by decide +kernel, by decide +kernel⟩, List.mem_of_getElem? (i := 832) (by decide +kernel), List.mem_of_getElem? (i := 994) (by decide +kernel), List.mem_of_getElem? (i := 995) (by decide +kernel)⟩
theorem lw_p27 : lw_okq (⟨"StuntDeskModel", "doesShoot", "(II)I"⟩, 9) := ⟨⟨by decide +kernel, by decide +kernel⟩, List.mem_of_getElem? (i := 832) (by decide +kernel), List.mem_of_getElem? (i := 1001) (by decide +kernel), List.mem_of_getElem? (i := 1002) (by decide +kernel)⟩
theorem lw_p28 : lw_okq (⟨"StuntDeskModel", "findError", "()I"⟩, 9) := ⟨⟨by decide +kernel, by decide +kernel⟩, List.mem_of_getElem? (i := 832) (by decide +kernel), List.mem_of_getElem? (i := 1017) (by decide +kernel), List.mem_of_getElem? (i := 1018) (by decide +kernel)⟩
theorem lw_p29 : lw_okq (⟨"StuntDeskModel", "readsPart", "()Z"⟩, 9) := ⟨⟨by decide +kernel, by decide +kernel⟩, List.mem_of_getElem? (i := 832) (by decide +kernel), List.mem_of_getElem? (i := 1021) (by decide +kernel), List.mem_of_getElem? (i := 1022) (by decide +kernel)⟩
theorem lw_p30 : lw_okq (⟨"StuntDeskModel", "takes", "(I)Z"⟩, 9) := ⟨⟨by decide +kernel, by decide +kernel⟩, List.mem_of_getElem? (i := 832) (by decide +kernel), List.mem_of_getElem? (i := 1025) (by decide +kernel), List.mem_of_getElem? (i := 1026) (by decide +kernel)⟩
theorem lw_p31 : lw_okq (⟨"StuntDeskModel", "next", "()I"⟩, 9) := ⟨⟨by decide +kernel, by decide +kernel⟩, List.mem_of_getElem? (i := 832) (by decide +kernel), List.mem_of_getElem? (i := 1029) (by decide +kernel), List.mem_of_getElem? (i := 1030) (by decide +kernel)⟩
def lw_privs_2 : List (MethodName × Nat) := [(⟨"StuntDeskModel", "injure", "(III)V"⟩, 9), (⟨"StuntDeskModel", "ofScene", "(II)I"⟩, 9), (⟨"StuntDeskModel", "costOf", "(II)I"⟩, 9), (⟨"StuntDeskModel", "isScene", "(I)Z"⟩, 9), (⟨"StuntDeskModel", "reason", "(III)I"⟩, 9), (⟨"StuntDeskModel", "distance", "(II)I"⟩, 9), (⟨"StuntDeskModel", "insuredStep", "(I)I"⟩, 9), (⟨"StuntDeskModel", "hasRested", "(II)Z"⟩, 9), (⟨"StuntDeskModel", "lacks", "(III)I"⟩, 9), (⟨"StuntDeskModel", "counting", "(IIII)I"⟩, 9), (⟨"StuntDeskModel", "ofRehearsal", "(II)I"⟩, 9), (⟨"StuntDeskModel", "doesShoot", "(II)I"⟩, 9), (⟨"StuntDeskModel", "findError", "()I"⟩, 9), (⟨"StuntDeskModel", "readsPart", "()Z"⟩, 9), (⟨"StuntDeskModel", "takes", "(I)Z"⟩, 9), (⟨"StuntDeskModel", "next", "()I"⟩, 9)]
theorem lw_r2 : ∀ q ∈ lw_privs_2, lw_okq q := List.forall_mem_cons.mpr ⟨lw_p16, List.forall_mem_cons.mpr ⟨lw_p17, List.forall_mem_cons.mpr ⟨lw_p18, List.forall_mem_cons.mpr ⟨lw_p19, List.forall_mem_cons.mpr ⟨lw_p20, List.forall_mem_cons.mpr ⟨lw_p21, List.forall_mem_cons.mpr ⟨lw_p22, List.forall_mem_cons.mpr ⟨lw_p23, List.forall_mem_cons.mpr ⟨lw_p24, List.forall_mem_cons.mpr ⟨lw_p25, List.forall_mem_cons.mpr ⟨lw_p26, List.forall_mem_cons.mpr ⟨lw_p27, List.forall_mem_cons.mpr ⟨lw_p28, List.forall_mem_cons.mpr ⟨lw_p29, List.forall_mem_cons.mpr ⟨lw_p30, List.forall_mem_cons.mpr ⟨lw_p31, fun _ h => absurd h List.not_mem_nil⟩⟩⟩⟩⟩⟩⟩⟩⟩⟩⟩⟩⟩⟩⟩⟩
theorem lw_p32 : lw_okq (⟨"StuntDeskModel", "readsDays", "()Z"⟩, 9) := ⟨⟨by decide +kernel, by decide +kernel⟩, List.mem_of_getElem? (i := 832) (by decide +kernel), List.mem_of_getElem? (i := 1033) (by decide +kernel), List.mem_of_getElem? (i := 1034) (by decide +kernel)⟩
theorem lw_p33 : lw_okq (⟨"StuntDeskModel", "readsDigit", "(III)Z"⟩, 9) := ⟨⟨by decide +kernel, by decide +kernel⟩, List.mem_of_getElem? (i := 832) (by decide +kernel), List.mem_of_getElem? (i := 1037) (by decide +kernel), List.mem_of_getElem? (i := 1038) (by decide +kernel)⟩
theorem lw_p34 : lw_okq (⟨"StuntDeskModel", "doesPart", "(I)Z"⟩, 9) := ⟨⟨by decide +kernel, by decide +kernel⟩, List.mem_of_getElem? (i := 832) (by decide +kernel), List.mem_of_getElem? (i := 1045) (by decide +kernel), List.mem_of_getElem? (i := 1046) (by decide +kernel)⟩
theorem lw_p35 : lw_okq (⟨"StuntDeskModel", "tellsPerson", "(II)I"⟩, 9) := ⟨⟨by decide +kernel, by decide +kernel⟩, List.mem_of_getElem? (i := 832) (by decide +kernel), List.mem_of_getElem? (i := 1053) (by decide +kernel), List.mem_of_getElem? (i := 1054) (by decide +kernel)⟩
theorem lw_p36 : lw_okq (⟨"StuntDeskModel", "lastHurtDay", "(I)I"⟩, 9) := ⟨⟨by decide +kernel, by decide +kernel⟩, List.mem_of_getElem? (i := 832) (by decide +kernel), List.mem_of_getElem? (i := 1057) (by decide +kernel), List.mem_of_getElem? (i := 1058) (by decide +kernel)⟩
theorem lw_p37 : lw_okq (⟨"StuntDeskModel", "barredKinds", "(I)I"⟩, 9) := ⟨⟨by decide +kernel, by decide +kernel⟩, List.mem_of_getElem? (i := 832) (by decide +kernel), List.mem_of_getElem? (i := 1061) (by decide +kernel), List.mem_of_getElem? (i := 1062) (by decide +kernel)⟩
theorem lw_p38 : lw_okq (⟨"StuntDeskModel", "tellsScene", "(II)I"⟩, 9) := ⟨⟨by decide +kernel, by decide +kernel⟩, List.mem_of_getElem? (i := 832) (by decide +kernel), List.mem_of_getElem? (i := 1077) (by decide +kernel), List.mem_of_getElem? (i := 1078) (by decide +kernel)⟩
theorem lw_p39 : lw_okq (⟨"StuntDeskModel", "cleared", "(I)I"⟩, 9) := ⟨⟨by decide +kernel, by decide +kernel⟩, List.mem_of_getElem? (i := 832) (by decide +kernel), List.mem_of_getElem? (i := 1081) (by decide +kernel), List.mem_of_getElem? (i := 1082) (by decide +kernel)⟩
theorem lw_p40 : lw_okq (⟨"StuntDeskModel", "tellsCount", "(I)I"⟩, 9) := ⟨⟨by decide +kernel, by decide +kernel⟩, List.mem_of_getElem? (i := 832) (by decide +kernel), List.mem_of_getElem? (i := 1089) (by decide +kernel), List.mem_of_getElem? (i := 1090) (by decide +kernel)⟩
theorem lw_p41 : lw_okq (⟨"StuntDeskModel", "shotScenes", "()I"⟩, 9) := ⟨⟨by decide +kernel, by decide +kernel⟩, List.mem_of_getElem? (i := 832) (by decide +kernel), List.mem_of_getElem? (i := 1093) (by decide +kernel), List.mem_of_getElem? (i := 1094) (by decide +kernel)⟩
theorem lw_p42 : lw_okq (⟨"StuntDeskModel", "openScenes", "()I"⟩, 9) := ⟨⟨by decide +kernel, by decide +kernel⟩, List.mem_of_getElem? (i := 832) (by decide +kernel), List.mem_of_getElem? (i := 1097) (by decide +kernel), List.mem_of_getElem? (i := 1098) (by decide +kernel)⟩
theorem lw_p43 : lw_okq (⟨"StuntDeskModel", "firstDay", "(II)I"⟩, 9) := ⟨⟨by decide +kernel, by decide +kernel⟩, List.mem_of_getElem? (i := 832) (by decide +kernel), List.mem_of_getElem? (i := 1109) (by decide +kernel), List.mem_of_getElem? (i := 1110) (by decide +kernel)⟩
theorem lw_p44 : lw_okq (⟨"StuntDeskModel", "bestFor", "(I)I"⟩, 9) := ⟨⟨by decide +kernel, by decide +kernel⟩, List.mem_of_getElem? (i := 832) (by decide +kernel), List.mem_of_getElem? (i := 1121) (by decide +kernel), List.mem_of_getElem? (i := 1122) (by decide +kernel)⟩
theorem lw_p45 : lw_okq (⟨"StuntDeskModel", "rankFor", "(II)I"⟩, 9) := ⟨⟨by decide +kernel, by decide +kernel⟩, List.mem_of_getElem? (i := 832) (by decide +kernel), List.mem_of_getElem? (i := 1125) (by decide +kernel), List.mem_of_getElem? (i := 1126) (by decide +kernel)⟩
theorem lw_p46 : lw_okq (⟨"StuntDeskModel", "stoppedBy", "(II)I"⟩, 9) := ⟨⟨by decide +kernel, by decide +kernel⟩, List.mem_of_getElem? (i := 832) (by decide +kernel), List.mem_of_getElem? (i := 1137) (by decide +kernel), List.mem_of_getElem? (i := 1138) (by decide +kernel)⟩
theorem lw_p47 : lw_okq (⟨"StuntDeskModel", "share", "()D"⟩, 9) := ⟨⟨by decide +kernel, by decide +kernel⟩, List.mem_of_getElem? (i := 832) (by decide +kernel), List.mem_of_getElem? (i := 1145) (by decide +kernel), List.mem_of_getElem? (i := 1146) (by decide +kernel)⟩
def lw_privs_3 : List (MethodName × Nat) := [(⟨"StuntDeskModel", "readsDays", "()Z"⟩, 9), (⟨"StuntDeskModel", "readsDigit", "(III)Z"⟩, 9), (⟨"StuntDeskModel", "doesPart", "(I)Z"⟩, 9), (⟨"StuntDeskModel", "tellsPerson", "(II)I"⟩, 9), (⟨"StuntDeskModel", "lastHurtDay", "(I)I"⟩, 9), (⟨"StuntDeskModel", "barredKinds", "(I)I"⟩, 9), (⟨"StuntDeskModel", "tellsScene", "(II)I"⟩, 9), (⟨"StuntDeskModel", "cleared", "(I)I"⟩, 9), (⟨"StuntDeskModel", "tellsCount", "(I)I"⟩, 9), (⟨"StuntDeskModel", "shotScenes", "()I"⟩, 9), (⟨"StuntDeskModel", "openScenes", "()I"⟩, 9), (⟨"StuntDeskModel", "firstDay", "(II)I"⟩, 9), (⟨"StuntDeskModel", "bestFor", "(I)I"⟩, 9), (⟨"StuntDeskModel", "rankFor", "(II)I"⟩, 9), (⟨"StuntDeskModel", "stoppedBy", "(II)I"⟩, 9), (⟨"StuntDeskModel", "share", "()D"⟩, 9)]
theorem lw_r3 : ∀ q ∈ lw_privs_3, lw_okq q := List.forall_mem_cons.mpr ⟨lw_p32, List.forall_mem_cons.mpr ⟨lw_p33, List.forall_mem_cons.mpr ⟨lw_p34, List.forall_mem_cons.mpr ⟨lw_p35, List.forall_mem_cons.mpr ⟨lw_p36, List.forall_mem_cons.mpr ⟨lw_p37, List.forall_mem_cons.mpr ⟨lw_p38, List.forall_mem_cons.mpr ⟨lw_p39, List.forall_mem_cons.mpr ⟨lw_p40, List.forall_mem_cons.mpr ⟨lw_p41, List.forall_mem_cons.mpr ⟨lw_p42, List.forall_mem_cons.mpr ⟨lw_p43, List.forall_mem_cons.mpr ⟨lw_p44, List.forall_mem_cons.mpr ⟨lw_p45, List.forall_mem_cons.mpr ⟨lw_p46, List.forall_mem_cons.mpr ⟨lw_p47, fun _ h => absurd h List.not_mem_nil⟩⟩⟩⟩⟩⟩⟩⟩⟩⟩⟩⟩⟩⟩⟩⟩
theorem lw_p48 : lw_okq (⟨"StuntDeskModel", "mix", "(J)V"⟩, 9) := ⟨⟨by decide +kernel, by decide +kernel⟩, List.mem_of_getElem? (i := 832) (by decide +kernel), List.mem_of_getElem? (i := 1154) (by decide +kernel), List.mem_of_getElem? (i := 1155) (by decide +kernel)⟩
theorem lw_p49 : lw_okq (⟨"StuntDeskModel", "mixPerson", "(I)V"⟩, 9) := ⟨⟨by decide +kernel, by decide +kernel⟩, List.mem_of_getElem? (i := 832) (by decide +kernel), List.mem_of_getElem? (i := 1159) (by decide +kernel), List.mem_of_getElem? (i := 1160) (by decide +kernel)⟩
theorem lw_p50 : lw_okq (⟨"StuntDeskModel", "mixScene", "(I)V"⟩, 9) := ⟨⟨by decide +kernel, by decide +kernel⟩, List.mem_of_getElem? (i := 832) (by decide +kernel), List.mem_of_getElem? (i := 1163) (by decide +kernel), List.mem_of_getElem? (i := 1164) (by decide +kernel)⟩
def lw_privs_4 : List (MethodName × Nat) := [(⟨"StuntDeskModel", "mix", "(J)V"⟩, 9), (⟨"StuntDeskModel", "mixPerson", "(I)V"⟩, 9), (⟨"StuntDeskModel", "mixScene", "(I)V"⟩, 9)]
theorem lw_r4 : ∀ q ∈ lw_privs_4, lw_okq q := List.forall_mem_cons.mpr ⟨lw_p48, List.forall_mem_cons.mpr ⟨lw_p49, List.forall_mem_cons.mpr ⟨lw_p50, fun _ h => absurd h List.not_mem_nil⟩⟩⟩
def lw_privs : List (MethodName × Nat) := lw_privs_1 ++ (lw_privs_2 ++ (lw_privs_3 ++ (lw_privs_4)))
def lw_tbl : List Cond := k2_sels lw_privs ++ tables_1
theorem lw_privs_ok : ∀ q ∈ lw_privs, lw_okq q := by
  show ∀ q ∈ lw_privs_1 ++ (lw_privs_2 ++ (lw_privs_3 ++ (lw_privs_4))), lw_okq q
  exact List.forall_mem_append.mpr ⟨lw_r1, List.forall_mem_append.mpr ⟨lw_r2, List.forall_mem_append.mpr ⟨lw_r3, lw_r4⟩⟩⟩
/-- the streams that the claim lets the run draw from -/
abbrev lw_cs : List Choice := [Jvm.Choice.named "NaN.bits"]
theorem lw_bits : nanBits ∈ lw_cs := by first | decide | exact List.mem_cons_self | simp [lw_cs, nanBits]
-- ===== end of PART A; then your names; then what follows =====
def RX0 : String := "StuntDesk$Injuries"
def TX0 : u_T := fun k => match k with
  | 0 => ("StuntDesk$Injuries", "kept", "I", false)
  | 1 => ("StuntDesk$Injuries", "people", "[I", true)
  | 2 => ("StuntDesk$Injuries", "parts", "[I", true)
  | _ => ("StuntDesk$Injuries", "lastDays", "[I", true)
def tyX0 : Nat → FieldType := fun k => match k with
  | 0 => .int
  | 1 => .array .int
  | 2 => .array .int
  | _ => .array .int
abbrev wsX00 : List Cond := u_ws RX0 TX0 4
theorem nmX0 : ∀ a, a < 4 → ∀ b, b < 4 → a ≠ b → (TX0 a).2.1 ≠ (TX0 b).2.1 := by decide +kernel
theorem tyX0_ok : ∀ k, k < 4 → parseFieldDescriptor (TX0 k).2.2.1 = some (tyX0 k) := by decide +kernel
abbrev cX0_init : ByteArray := prog_2_method_1_code
def yX0_init : MethodName := ⟨RX0, "<init>", "()V"⟩
abbrev cX0_keep : ByteArray := prog_2_method_2_code
def yX0_keep : MethodName := ⟨RX0, "keep", "(III)V"⟩
abbrev cX0_partsOn : ByteArray := prog_2_method_3_code
def yX0_partsOn : MethodName := ⟨RX0, "partsOn", "(II)I"⟩
abbrev cX0_lastDayFor : ByteArray := prog_2_method_4_code
def yX0_lastDayFor : MethodName := ⟨RX0, "lastDayFor", "(II)I"⟩
abbrev cX0_copyFrom : ByteArray := prog_2_method_5_code
def yX0_copyFrom : MethodName := ⟨RX0, "copyFrom", "(LStuntDesk$Injuries;)V"⟩
def RX1 : String := "StuntDesk$PlanText"
def TX1 : u_T := fun k => match k with
  | 0 => ("StuntDesk$PlanText", "length", "I", false)
  | _ => ("StuntDesk$PlanText", "codes", "[I", true)
def tyX1 : Nat → FieldType := fun k => match k with
  | 0 => .int
  | _ => .array .int
abbrev wsX10 : List Cond := u_ws RX1 TX1 2
theorem nmX1 : ∀ a, a < 2 → ∀ b, b < 2 → a ≠ b → (TX1 a).2.1 ≠ (TX1 b).2.1 := by decide +kernel
theorem tyX1_ok : ∀ k, k < 2 → parseFieldDescriptor (TX1 k).2.2.1 = some (tyX1 k) := by decide +kernel
abbrev cX1_init : ByteArray := prog_3_method_1_code
def yX1_init : MethodName := ⟨RX1, "<init>", "()V"⟩
abbrev cX1_add : ByteArray := prog_3_method_2_code
def yX1_add : MethodName := ⟨RX1, "add", "(I)V"⟩
abbrev cX1_makeEmpty : ByteArray := prog_3_method_3_code
def yX1_makeEmpty : MethodName := ⟨RX1, "makeEmpty", "()V"⟩
abbrev cX1_codeAt : ByteArray := prog_3_method_4_code
def yX1_codeAt : MethodName := ⟨RX1, "codeAt", "(I)I"⟩
abbrev cX1_digitAt : ByteArray := prog_3_method_5_code
def yX1_digitAt : MethodName := ⟨RX1, "digitAt", "(I)I"⟩
abbrev cX1_hasDigitAt : ByteArray := prog_3_method_6_code
def yX1_hasDigitAt : MethodName := ⟨RX1, "hasDigitAt", "(I)Z"⟩
abbrev cX1_daysAt : ByteArray := prog_3_method_7_code
def yX1_daysAt : MethodName := ⟨RX1, "daysAt", "(I)I"⟩
abbrev cX1_isPartStart : ByteArray := prog_3_method_8_code
def yX1_isPartStart : MethodName := ⟨RX1, "isPartStart", "(I)Z"⟩
abbrev cX1_errorPlace : ByteArray := prog_3_method_9_code
def yX1_errorPlace : MethodName := ⟨RX1, "errorPlace", "()I"⟩
abbrev cX1_isComplete : ByteArray := prog_3_method_10_code
def yX1_isComplete : MethodName := ⟨RX1, "isComplete", "()Z"⟩
abbrev cX1_placeAfter : ByteArray := prog_3_method_11_code
def yX1_placeAfter : MethodName := ⟨RX1, "placeAfter", "(II)I"⟩
abbrev cX1_placeAfterFirst : ByteArray := prog_3_method_12_code
def yX1_placeAfterFirst : MethodName := ⟨RX1, "placeAfterFirst", "(I)I"⟩
abbrev cX1_placeAfterPart : ByteArray := prog_3_method_13_code
def yX1_placeAfterPart : MethodName := ⟨RX1, "placeAfterPart", "(I)I"⟩
def RX2 : String := "StuntDesk$Rehearsals"
def TX2 : u_T := fun k => match k with
  | 0 => ("StuntDesk$Rehearsals", "kept", "I", false)
  | 1 => ("StuntDesk$Rehearsals", "people", "[I", true)
  | 2 => ("StuntDesk$Rehearsals", "kinds", "[I", true)
  | 3 => ("StuntDesk$Rehearsals", "risks", "[I", true)
  | _ => ("StuntDesk$Rehearsals", "days", "[I", true)
def tyX2 : Nat → FieldType := fun k => match k with
  | 0 => .int
  | 1 => .array .int
  | 2 => .array .int
  | 3 => .array .int
  | _ => .array .int
abbrev wsX20 : List Cond := u_ws RX2 TX2 5
theorem nmX2 : ∀ a, a < 5 → ∀ b, b < 5 → a ≠ b → (TX2 a).2.1 ≠ (TX2 b).2.1 := by decide +kernel
theorem tyX2_ok : ∀ k, k < 5 → parseFieldDescriptor (TX2 k).2.2.1 = some (tyX2 k) := by decide +kernel
abbrev cX2_init : ByteArray := prog_4_method_1_code
def yX2_init : MethodName := ⟨RX2, "<init>", "()V"⟩
abbrev cX2_keep : ByteArray := prog_4_method_2_code
def yX2_keep : MethodName := ⟨RX2, "keep", "(IIII)V"⟩
abbrev cX2_countingOn : ByteArray := prog_4_method_3_code
def yX2_countingOn : MethodName := ⟨RX2, "countingOn", "(IIII)I"⟩
abbrev cX2_copyFrom : ByteArray := prog_4_method_4_code
def yX2_copyFrom : MethodName := ⟨RX2, "copyFrom", "(LStuntDesk$Rehearsals;)V"⟩
def RX3 : String := "StuntDesk$SavedStates"
def TX3 : u_T := fun k => match k with
  | 0 => ("StuntDesk$SavedStates", "kept", "I", false)
  | _ => ("StuntDesk$SavedStates", "states", "[LStuntDesk$State;", true)
def tyX3 : Nat → FieldType := fun k => match k with
  | 0 => .int
  | _ => .array (.object "StuntDesk$State")
abbrev wsX30 : List Cond := u_ws RX3 TX3 2
theorem nmX3 : ∀ a, a < 2 → ∀ b, b < 2 → a ≠ b → (TX3 a).2.1 ≠ (TX3 b).2.1 := by decide +kernel
theorem tyX3_ok : ∀ k, k < 2 → parseFieldDescriptor (TX3 k).2.2.1 = some (tyX3 k) := by decide +kernel
abbrev cX3_init : ByteArray := prog_5_method_1_code
def yX3_init : MethodName := ⟨RX3, "<init>", "()V"⟩
abbrev cX3_keep : ByteArray := prog_5_method_2_code
def yX3_keep : MethodName := ⟨RX3, "keep", "(LStuntDesk$State;)V"⟩
abbrev cX3_dropOldest : ByteArray := prog_5_method_3_code
def yX3_dropOldest : MethodName := ⟨RX3, "dropOldest", "()V"⟩
abbrev cX3_restoreLatest : ByteArray := prog_5_method_4_code
def yX3_restoreLatest : MethodName := ⟨RX3, "restoreLatest", "(LStuntDesk$State;)V"⟩
abbrev cX3_stateAt : ByteArray := prog_5_method_5_code
def yX3_stateAt : MethodName := ⟨RX3, "stateAt", "(I)LStuntDesk$State;"⟩
def RX4 : String := "StuntDesk$Scenes"
def TX4 : u_T := fun k => match k with
  | 0 => ("StuntDesk$Scenes", "told", "I", false)
  | 1 => ("StuntDesk$Scenes", "kinds", "[I", true)
  | 2 => ("StuntDesk$Scenes", "risks", "[I", true)
  | 3 => ("StuntDesk$Scenes", "seen", "[I", true)
  | 4 => ("StuntDesk$Scenes", "shotDays", "[I", true)
  | _ => ("StuntDesk$Scenes", "doers", "[I", true)
def tyX4 : Nat → FieldType := fun k => match k with
  | 0 => .int
  | 1 => .array .int
  | 2 => .array .int
  | 3 => .array .int
  | 4 => .array .int
  | _ => .array .int
abbrev wsX40 : List Cond := u_ws RX4 TX4 6
theorem nmX4 : ∀ a, a < 6 → ∀ b, b < 6 → a ≠ b → (TX4 a).2.1 ≠ (TX4 b).2.1 := by decide +kernel
theorem tyX4_ok : ∀ k, k < 6 → parseFieldDescriptor (TX4 k).2.2.1 = some (tyX4 k) := by decide +kernel
abbrev cX4_init : ByteArray := prog_6_method_1_code
def yX4_init : MethodName := ⟨RX4, "<init>", "()V"⟩
abbrev cX4_has : ByteArray := prog_6_method_2_code
def yX4_has : MethodName := ⟨RX4, "has", "(I)Z"⟩
abbrev cX4_tell : ByteArray := prog_6_method_3_code
def yX4_tell : MethodName := ⟨RX4, "tell", "(III)I"⟩
abbrev cX4_noteShot : ByteArray := prog_6_method_4_code
def yX4_noteShot : MethodName := ⟨RX4, "noteShot", "(III)V"⟩
abbrev cX4_kindOf : ByteArray := prog_6_method_5_code
def yX4_kindOf : MethodName := ⟨RX4, "kindOf", "(I)I"⟩
abbrev cX4_riskOf : ByteArray := prog_6_method_6_code
def yX4_riskOf : MethodName := ⟨RX4, "riskOf", "(I)I"⟩
abbrev cX4_seenIn : ByteArray := prog_6_method_7_code
def yX4_seenIn : MethodName := ⟨RX4, "seenIn", "(I)I"⟩
abbrev cX4_dayOfShot : ByteArray := prog_6_method_8_code
def yX4_dayOfShot : MethodName := ⟨RX4, "dayOfShot", "(I)I"⟩
abbrev cX4_doerOf : ByteArray := prog_6_method_9_code
def yX4_doerOf : MethodName := ⟨RX4, "doerOf", "(I)I"⟩
abbrev cX4_isShot : ByteArray := prog_6_method_10_code
def yX4_isShot : MethodName := ⟨RX4, "isShot", "(I)Z"⟩
abbrev cX4_isByDouble : ByteArray := prog_6_method_11_code
def yX4_isByDouble : MethodName := ⟨RX4, "isByDouble", "(I)Z"⟩
abbrev cX4_shotOnes : ByteArray := prog_6_method_12_code
def yX4_shotOnes : MethodName := ⟨RX4, "shotOnes", "()I"⟩
abbrev cX4_shotByDoubles : ByteArray := prog_6_method_13_code
def yX4_shotByDoubles : MethodName := ⟨RX4, "shotByDoubles", "()I"⟩
abbrev cX4_shotBy : ByteArray := prog_6_method_14_code
def yX4_shotBy : MethodName := ⟨RX4, "shotBy", "(I)I"⟩
abbrev cX4_latestShotBy : ByteArray := prog_6_method_15_code
def yX4_latestShotBy : MethodName := ⟨RX4, "latestShotBy", "(I)I"⟩
abbrev cX4_shareShot : ByteArray := prog_6_method_16_code
def yX4_shareShot : MethodName := ⟨RX4, "shareShot", "()D"⟩
abbrev cX4_copyFrom : ByteArray := prog_6_method_17_code
def yX4_copyFrom : MethodName := ⟨RX4, "copyFrom", "(LStuntDesk$Scenes;)V"⟩
def RX5 : String := "StuntDesk$State"
def TX5 : u_T := fun k => match k with
  | 0 => ("StuntDesk$State", "day", "I", false)
  | 1 => ("StuntDesk$State", "purse", "I", false)
  | 2 => ("StuntDesk$State", "insuredStep", "I", false)
  | 3 => ("StuntDesk$State", "insuredTo", "I", false)
  | 4 => ("StuntDesk$State", "injuriesSoFar", "I", false)
  | 5 => ("StuntDesk$State", "rehearsalsSoFar", "I", false)
  | 6 => ("StuntDesk$State", "sizes", "[I", true)
  | 7 => ("StuntDesk$State", "rehearsalsToday", "[I", true)
  | 8 => ("StuntDesk$State", "rehearsals", "LStuntDesk$Rehearsals;", true)
  | 9 => ("StuntDesk$State", "injuries", "LStuntDesk$Injuries;", true)
  | _ => ("StuntDesk$State", "scenes", "LStuntDesk$Scenes;", true)
def tyX5 : Nat → FieldType := fun k => match k with
  | 0 => .int
  | 1 => .int
  | 2 => .int
  | 3 => .int
  | 4 => .int
  | 5 => .int
  | 6 => .array .int
  | 7 => .array .int
  | 8 => .object "StuntDesk$Rehearsals"
  | 9 => .object "StuntDesk$Injuries"
  | _ => .object "StuntDesk$Scenes"
abbrev wsX50 : List Cond := u_ws RX5 TX5 11
theorem nmX5 : ∀ a, a < 11 → ∀ b, b < 11 → a ≠ b → (TX5 a).2.1 ≠ (TX5 b).2.1 := by decide +kernel
theorem tyX5_ok : ∀ k, k < 11 → parseFieldDescriptor (TX5 k).2.2.1 = some (tyX5 k) := by decide +kernel
abbrev cX5_init : ByteArray := prog_7_method_1_code
def yX5_init : MethodName := ⟨RX5, "<init>", "()V"⟩
abbrev cX5_copyFrom : ByteArray := prog_7_method_2_code
def yX5_copyFrom : MethodName := ⟨RX5, "copyFrom", "(LStuntDesk$State;)V"⟩
abbrev cX5_changeSize : ByteArray := prog_7_method_3_code
def yX5_changeSize : MethodName := ⟨RX5, "changeSize", "(II)I"⟩
abbrev cX5_canPass : ByteArray := prog_7_method_4_code
def yX5_canPass : MethodName := ⟨RX5, "canPass", "(I)Z"⟩
abbrev cX5_letPass : ByteArray := prog_7_method_5_code
def yX5_letPass : MethodName := ⟨RX5, "letPass", "(I)V"⟩
abbrev cX5_canRehearse : ByteArray := prog_7_method_6_code
def yX5_canRehearse : MethodName := ⟨RX5, "canRehearse", "(II)Z"⟩
abbrev cX5_letRehearse : ByteArray := prog_7_method_7_code
def yX5_letRehearse : MethodName := ⟨RX5, "letRehearse", "(III)Z"⟩
abbrev cX5_noteInjury : ByteArray := prog_7_method_8_code
def yX5_noteInjury : MethodName := ⟨RX5, "noteInjury", "(III)V"⟩
abbrev cX5_scenesBarredFor : ByteArray := prog_7_method_9_code
def yX5_scenesBarredFor : MethodName := ⟨RX5, "scenesBarredFor", "(I)I"⟩
abbrev cX5_costOf : ByteArray := prog_7_method_10_code
def yX5_costOf : MethodName := ⟨RX5, "costOf", "(II)I"⟩
abbrev cX5_buyInsurance : ByteArray := prog_7_method_11_code
def yX5_buyInsurance : MethodName := ⟨RX5, "buyInsurance", "(II)V"⟩
abbrev cX5_stepOn : ByteArray := prog_7_method_12_code
def yX5_stepOn : MethodName := ⟨RX5, "stepOn", "(I)I"⟩
abbrev cX5_lastInsuredDay : ByteArray := prog_7_method_13_code
def yX5_lastInsuredDay : MethodName := ⟨RX5, "lastInsuredDay", "()I"⟩
abbrev cX5_canShoot : ByteArray := prog_7_method_14_code
def yX5_canShoot : MethodName := ⟨RX5, "canShoot", "(II)Z"⟩
abbrev cX5_letShoot : ByteArray := prog_7_method_15_code
def yX5_letShoot : MethodName := ⟨RX5, "letShoot", "(II)V"⟩
abbrev cX5_reasonOn : ByteArray := prog_7_method_16_code
def yX5_reasonOn : MethodName := ⟨RX5, "reasonOn", "(III)I"⟩
abbrev cX5_lookAlike : ByteArray := prog_7_method_17_code
def yX5_lookAlike : MethodName := ⟨RX5, "lookAlike", "(II)Z"⟩
abbrev cX5_firstClearedDay : ByteArray := prog_7_method_18_code
def yX5_firstClearedDay : MethodName := ⟨RX5, "firstClearedDay", "(II)I"⟩
abbrev cX5_rehearsalsLacking : ByteArray := prog_7_method_19_code
def yX5_rehearsalsLacking : MethodName := ⟨RX5, "rehearsalsLacking", "(II)I"⟩
abbrev cX5_bestFor : ByteArray := prog_7_method_20_code
def yX5_bestFor : MethodName := ⟨RX5, "bestFor", "(I)I"⟩
abbrev cX5_comesIntoQuestion : ByteArray := prog_7_method_21_code
def yX5_comesIntoQuestion : MethodName := ⟨RX5, "comesIntoQuestion", "(II)Z"⟩
abbrev cX5_isBetter : ByteArray := prog_7_method_22_code
def yX5_isBetter : MethodName := ⟨RX5, "isBetter", "(III)Z"⟩
abbrev cX5_sizeGap : ByteArray := prog_7_method_23_code
def yX5_sizeGap : MethodName := ⟨RX5, "sizeGap", "(II)I"⟩
abbrev cX5_clearedToday : ByteArray := prog_7_method_24_code
def yX5_clearedToday : MethodName := ⟨RX5, "clearedToday", "(I)I"⟩
abbrev cX5_scenesSomebodyCouldShoot : ByteArray := prog_7_method_25_code
def yX5_scenesSomebodyCouldShoot : MethodName := ⟨RX5, "scenesSomebodyCouldShoot", "()I"⟩
abbrev cX5_scenesStoppedBy : ByteArray := prog_7_method_26_code
def yX5_scenesStoppedBy : MethodName := ⟨RX5, "scenesStoppedBy", "(II)I"⟩
abbrev cX5_personNumber : ByteArray := prog_7_method_27_code
def yX5_personNumber : MethodName := ⟨RX5, "personNumber", "(II)I"⟩
abbrev cX5_kindsBarredToday : ByteArray := prog_7_method_28_code
def yX5_kindsBarredToday : MethodName := ⟨RX5, "kindsBarredToday", "(I)I"⟩
abbrev cX5_sceneNumber : ByteArray := prog_7_method_29_code
def yX5_sceneNumber : MethodName := ⟨RX5, "sceneNumber", "(II)I"⟩
def RX6 : String := "StuntDesk"
def TX6 : u_T := fun k => match k with
  | 0 => ("StuntDesk", "now", "LStuntDesk$State;", true)
  | 1 => ("StuntDesk", "saved", "LStuntDesk$SavedStates;", true)
  | _ => ("StuntDesk", "text", "LStuntDesk$PlanText;", true)
def tyX6 : Nat → FieldType := fun k => match k with
  | 0 => .object "StuntDesk$State"
  | 1 => .object "StuntDesk$SavedStates"
  | _ => .object "StuntDesk$PlanText"
abbrev wsX60 : List Cond := u_ws RX6 TX6 3
theorem nmX6 : ∀ a, a < 3 → ∀ b, b < 3 → a ≠ b → (TX6 a).2.1 ≠ (TX6 b).2.1 := by decide +kernel
theorem tyX6_ok : ∀ k, k < 3 → parseFieldDescriptor (TX6 k).2.2.1 = some (tyX6 k) := by decide +kernel
abbrev cX6_init : ByteArray := prog_1_method_1_code
def yX6_init : MethodName := ⟨RX6, "<init>", "()V"⟩
abbrev cX6_size : ByteArray := prog_1_method_2_code
def yX6_size : MethodName := ⟨RX6, "size", "(II)I"⟩
abbrev cX6_pass : ByteArray := prog_1_method_3_code
def yX6_pass : MethodName := ⟨RX6, "pass", "(I)I"⟩
abbrev cX6_rehearse : ByteArray := prog_1_method_4_code
def yX6_rehearse : MethodName := ⟨RX6, "rehearse", "(III)I"⟩
abbrev cX6_hurt : ByteArray := prog_1_method_5_code
def yX6_hurt : MethodName := ⟨RX6, "hurt", "(III)I"⟩
abbrev cX6_insure : ByteArray := prog_1_method_6_code
def yX6_insure : MethodName := ⟨RX6, "insure", "(II)I"⟩
abbrev cX6_scene : ByteArray := prog_1_method_7_code
def yX6_scene : MethodName := ⟨RX6, "scene", "(III)I"⟩
abbrev cX6_shoot : ByteArray := prog_1_method_8_code
def yX6_shoot : MethodName := ⟨RX6, "shoot", "(II)I"⟩
abbrev cX6_append : ByteArray := prog_1_method_9_code
def yX6_append : MethodName := ⟨RX6, "append", "(I)I"⟩
abbrev cX6_clearBuffer : ByteArray := prog_1_method_10_code
def yX6_clearBuffer : MethodName := ⟨RX6, "clearBuffer", "()I"⟩
abbrev cX6_firstError : ByteArray := prog_1_method_11_code
def yX6_firstError : MethodName := ⟨RX6, "firstError", "()I"⟩
abbrev cX6_play : ByteArray := prog_1_method_12_code
def yX6_play : MethodName := ⟨RX6, "play", "()I"⟩
abbrev cX6_undo : ByteArray := prog_1_method_13_code
def yX6_undo : MethodName := ⟨RX6, "undo", "()I"⟩
abbrev cX6_person : ByteArray := prog_1_method_14_code
def yX6_person : MethodName := ⟨RX6, "person", "(II)I"⟩
abbrev cX6_rehearsed : ByteArray := prog_1_method_15_code
def yX6_rehearsed : MethodName := ⟨RX6, "rehearsed", "(III)I"⟩
abbrev cX6_kind : ByteArray := prog_1_method_16_code
def yX6_kind : MethodName := ⟨RX6, "kind", "(III)I"⟩
abbrev cX6_sceneOf : ByteArray := prog_1_method_17_code
def yX6_sceneOf : MethodName := ⟨RX6, "sceneOf", "(II)I"⟩
abbrev cX6_count : ByteArray := prog_1_method_18_code
def yX6_count : MethodName := ⟨RX6, "count", "(I)I"⟩
abbrev cX6_refusal : ByteArray := prog_1_method_19_code
def yX6_refusal : MethodName := ⟨RX6, "refusal", "(II)I"⟩
abbrev cX6_soonest : ByteArray := prog_1_method_20_code
def yX6_soonest : MethodName := ⟨RX6, "soonest", "(II)I"⟩
abbrev cX6_lacking : ByteArray := prog_1_method_21_code
def yX6_lacking : MethodName := ⟨RX6, "lacking", "(II)I"⟩
abbrev cX6_best : ByteArray := prog_1_method_22_code
def yX6_best : MethodName := ⟨RX6, "best", "(I)I"⟩
abbrev cX6_cost : ByteArray := prog_1_method_23_code
def yX6_cost : MethodName := ⟨RX6, "cost", "(II)I"⟩
abbrev cX6_ifHurt : ByteArray := prog_1_method_24_code
def yX6_ifHurt : MethodName := ⟨RX6, "ifHurt", "(II)I"⟩
abbrev cX6_shotShare : ByteArray := prog_1_method_25_code
def yX6_shotShare : MethodName := ⟨RX6, "shotShare", "()D"⟩
abbrev cX6_digest : ByteArray := prog_1_method_26_code
def yX6_digest : MethodName := ⟨RX6, "digest", "()J"⟩
abbrev cX6_mixedWithPerson : ByteArray := prog_1_method_27_code
def yX6_mixedWithPerson : MethodName := ⟨RX6, "mixedWithPerson", "(JI)J"⟩
abbrev cX6_mixedWithScene : ByteArray := prog_1_method_28_code
def yX6_mixedWithScene : MethodName := ⟨RX6, "mixedWithScene", "(JI)J"⟩
abbrev cX6_mixed : ByteArray := prog_1_method_29_code
def yX6_mixed : MethodName := ⟨RX6, "mixed", "(JJ)J"⟩
abbrev cX6_bitsOfShare : ByteArray := prog_1_method_30_code
def yX6_bitsOfShare : MethodName := ⟨RX6, "bitsOfShare", "(D)J"⟩
abbrev cX6_countNumber : ByteArray := prog_1_method_31_code
def yX6_countNumber : MethodName := ⟨RX6, "countNumber", "(I)I"⟩
abbrev cX6_playPart : ByteArray := prog_1_method_32_code
def yX6_playPart : MethodName := ⟨RX6, "playPart", "(I)Z"⟩
abbrev cX6_playDays : ByteArray := prog_1_method_33_code
def yX6_playDays : MethodName := ⟨RX6, "playDays", "(I)Z"⟩
abbrev cX6_playShot : ByteArray := prog_1_method_34_code
def yX6_playShot : MethodName := ⟨RX6, "playShot", "(II)Z"⟩
abbrev cX6_playRehearsal : ByteArray := prog_1_method_35_code
def yX6_playRehearsal : MethodName := ⟨RX6, "playRehearsal", "(III)Z"⟩
abbrev cX6_requirePerson : ByteArray := prog_1_method_36_code
def yX6_requirePerson : MethodName := ⟨RX6, "requirePerson", "(I)V"⟩
abbrev cX6_requireKind : ByteArray := prog_1_method_37_code
def yX6_requireKind : MethodName := ⟨RX6, "requireKind", "(I)V"⟩
abbrev cX6_requireScene : ByteArray := prog_1_method_38_code
def yX6_requireScene : MethodName := ⟨RX6, "requireScene", "(I)V"⟩
abbrev cX6_requireArgument : ByteArray := prog_1_method_39_code
def yX6_requireArgument : MethodName := ⟨RX6, "requireArgument", "(Z)V"⟩
abbrev cX6_requireState : ByteArray := prog_1_method_40_code
def yX6_requireState : MethodName := ⟨RX6, "requireState", "(Z)V"⟩
abbrev cX6_isBetween : ByteArray := prog_1_method_41_code
def yX6_isBetween : MethodName := ⟨RX6, "isBetween", "(III)Z"⟩
abbrev cX6_isPart : ByteArray := prog_1_method_42_code
def yX6_isPart : MethodName := ⟨RX6, "isPart", "(I)Z"⟩
abbrev cX6_isInsurance : ByteArray := prog_1_method_43_code
def yX6_isInsurance : MethodName := ⟨RX6, "isInsurance", "(II)Z"⟩
abbrev cX6_rehearsalsNeeded : ByteArray := prog_1_method_44_code
def yX6_rehearsalsNeeded : MethodName := ⟨RX6, "rehearsalsNeeded", "(II)I"⟩
abbrev cX6_barsKind : ByteArray := prog_1_method_45_code
def yX6_barsKind : MethodName := ⟨RX6, "barsKind", "(II)Z"⟩
abbrev cX6_at : ByteArray := prog_1_method_46_code
def yX6_at : MethodName := ⟨RX6, "at", "([II)I"⟩
abbrev cX6_put : ByteArray := prog_1_method_47_code
def yX6_put : MethodName := ⟨RX6, "put", "([III)V"⟩
abbrev cX6_copyRow : ByteArray := prog_1_method_48_code
def yX6_copyRow : MethodName := ⟨RX6, "copyRow", "([I[I)V"⟩
abbrev cX6_dropFirst : ByteArray := prog_1_method_49_code
def yX6_dropFirst : MethodName := ⟨RX6, "dropFirst", "([I)V"⟩
def RX7 : String := "StuntDeskModel"
def TX7 : u_T := fun k => match k with
  | 0 => ("StuntDeskModel", "thrown", "I", false)
  | 1 => ("StuntDeskModel", "state", "[I", true)
  | 2 => ("StuntDeskModel", "saved", "[I", true)
  | 3 => ("StuntDeskModel", "savedMany", "I", false)
  | 4 => ("StuntDeskModel", "buffer", "[I", true)
  | 5 => ("StuntDeskModel", "length", "I", false)
  | 6 => ("StuntDeskModel", "at", "I", false)
  | 7 => ("StuntDeskModel", "numbers", "[I", true)
  | _ => ("StuntDeskModel", "hash", "J", false)
def tyX7 : Nat → FieldType := fun k => match k with
  | 0 => .int
  | 1 => .array .int
  | 2 => .array .int
  | 3 => .int
  | 4 => .array .int
  | 5 => .int
  | 6 => .int
  | 7 => .array .int
  | _ => .long
abbrev wsX70 : List Cond := u_ws RX7 TX7 9
theorem nmX7 : ∀ a, a < 9 → ∀ b, b < 9 → a ≠ b → (TX7 a).2.1 ≠ (TX7 b).2.1 := by decide +kernel
theorem tyX7_ok : ∀ k, k < 9 → parseFieldDescriptor (TX7 k).2.2.1 = some (tyX7 k) := by decide +kernel
abbrev cX7_init : ByteArray := prog_9_method_1_code
def yX7_init : MethodName := ⟨RX7, "<init>", "()V"⟩
abbrev cX7_thrown : ByteArray := prog_9_method_2_code
def yX7_thrown : MethodName := ⟨RX7, "thrown", "()I"⟩
abbrev cX7_fails : ByteArray := prog_9_method_3_code
def yX7_fails : MethodName := ⟨RX7, "fails", "(I)I"⟩
abbrev cX7_within : ByteArray := prog_9_method_4_code
def yX7_within : MethodName := ⟨RX7, "within", "(III)Z"⟩
abbrev cX7_isPerson : ByteArray := prog_9_method_5_code
def yX7_isPerson : MethodName := ⟨RX7, "isPerson", "(I)Z"⟩
abbrev cX7_isKind : ByteArray := prog_9_method_6_code
def yX7_isKind : MethodName := ⟨RX7, "isKind", "(I)Z"⟩
abbrev cX7_isRisk : ByteArray := prog_9_method_7_code
def yX7_isRisk : MethodName := ⟨RX7, "isRisk", "(I)Z"⟩
abbrev cX7_isPart : ByteArray := prog_9_method_8_code
def yX7_isPart : MethodName := ⟨RX7, "isPart", "(I)Z"⟩
abbrev cX7_isScene : ByteArray := prog_9_method_9_code
def yX7_isScene : MethodName := ⟨RX7, "isScene", "(I)Z"⟩
abbrev cX7_save : ByteArray := prog_9_method_10_code
def yX7_save : MethodName := ⟨RX7, "save", "()V"⟩
abbrev cX7_undo : ByteArray := prog_9_method_11_code
def yX7_undo : MethodName := ⟨RX7, "undo", "()I"⟩
abbrev cX7_needs : ByteArray := prog_9_method_12_code
def yX7_needs : MethodName := ⟨RX7, "needs", "(II)I"⟩
abbrev cX7_countsFor : ByteArray := prog_9_method_13_code
def yX7_countsFor : MethodName := ⟨RX7, "countsFor", "(I)I"⟩
abbrev cX7_barringParts : ByteArray := prog_9_method_14_code
def yX7_barringParts : MethodName := ⟨RX7, "barringParts", "(I)I"⟩
abbrev cX7_partOfRehearsal : ByteArray := prog_9_method_15_code
def yX7_partOfRehearsal : MethodName := ⟨RX7, "partOfRehearsal", "(I)I"⟩
abbrev cX7_ofInjury : ByteArray := prog_9_method_16_code
def yX7_ofInjury : MethodName := ⟨RX7, "ofInjury", "(II)I"⟩
abbrev cX7_hurtParts : ByteArray := prog_9_method_17_code
def yX7_hurtParts : MethodName := ⟨RX7, "hurtParts", "(II)I"⟩
abbrev cX7_lastHurtDay : ByteArray := prog_9_method_18_code
def yX7_lastHurtDay : MethodName := ⟨RX7, "lastHurtDay", "(I)I"⟩
abbrev cX7_isBarred : ByteArray := prog_9_method_19_code
def yX7_isBarred : MethodName := ⟨RX7, "isBarred", "(III)Z"⟩
abbrev cX7_barredKinds : ByteArray := prog_9_method_20_code
def yX7_barredKinds : MethodName := ⟨RX7, "barredKinds", "(I)I"⟩
abbrev cX7_ofRehearsal : ByteArray := prog_9_method_21_code
def yX7_ofRehearsal : MethodName := ⟨RX7, "ofRehearsal", "(II)I"⟩
abbrev cX7_counting : ByteArray := prog_9_method_22_code
def yX7_counting : MethodName := ⟨RX7, "counting", "(IIII)I"⟩
abbrev cX7_injure : ByteArray := prog_9_method_23_code
def yX7_injure : MethodName := ⟨RX7, "injure", "(III)V"⟩
abbrev cX7_doesRehearse : ByteArray := prog_9_method_24_code
def yX7_doesRehearse : MethodName := ⟨RX7, "doesRehearse", "(III)I"⟩
abbrev cX7_doesPass : ByteArray := prog_9_method_25_code
def yX7_doesPass : MethodName := ⟨RX7, "doesPass", "(I)I"⟩
abbrev cX7_ofScene : ByteArray := prog_9_method_26_code
def yX7_ofScene : MethodName := ⟨RX7, "ofScene", "(II)I"⟩
abbrev cX7_distance : ByteArray := prog_9_method_27_code
def yX7_distance : MethodName := ⟨RX7, "distance", "(II)I"⟩
abbrev cX7_insuredStep : ByteArray := prog_9_method_28_code
def yX7_insuredStep : MethodName := ⟨RX7, "insuredStep", "(I)I"⟩
abbrev cX7_hasRested : ByteArray := prog_9_method_29_code
def yX7_hasRested : MethodName := ⟨RX7, "hasRested", "(II)Z"⟩
abbrev cX7_lacks : ByteArray := prog_9_method_30_code
def yX7_lacks : MethodName := ⟨RX7, "lacks", "(III)I"⟩
abbrev cX7_reason : ByteArray := prog_9_method_31_code
def yX7_reason : MethodName := ⟨RX7, "reason", "(III)I"⟩
abbrev cX7_cleared : ByteArray := prog_9_method_32_code
def yX7_cleared : MethodName := ⟨RX7, "cleared", "(I)I"⟩
abbrev cX7_doesShoot : ByteArray := prog_9_method_33_code
def yX7_doesShoot : MethodName := ⟨RX7, "doesShoot", "(II)I"⟩
abbrev cX7_costOf : ByteArray := prog_9_method_34_code
def yX7_costOf : MethodName := ⟨RX7, "costOf", "(II)I"⟩
abbrev cX7_size : ByteArray := prog_9_method_35_code
def yX7_size : MethodName := ⟨RX7, "size", "(II)I"⟩
abbrev cX7_pass : ByteArray := prog_9_method_36_code
def yX7_pass : MethodName := ⟨RX7, "pass", "(I)I"⟩
abbrev cX7_rehearse : ByteArray := prog_9_method_37_code
def yX7_rehearse : MethodName := ⟨RX7, "rehearse", "(III)I"⟩
abbrev cX7_hurt : ByteArray := prog_9_method_38_code
def yX7_hurt : MethodName := ⟨RX7, "hurt", "(III)I"⟩
abbrev cX7_insure : ByteArray := prog_9_method_39_code
def yX7_insure : MethodName := ⟨RX7, "insure", "(II)I"⟩
abbrev cX7_scene : ByteArray := prog_9_method_40_code
def yX7_scene : MethodName := ⟨RX7, "scene", "(III)I"⟩
abbrev cX7_shoot : ByteArray := prog_9_method_41_code
def yX7_shoot : MethodName := ⟨RX7, "shoot", "(II)I"⟩
abbrev cX7_append : ByteArray := prog_9_method_42_code
def yX7_append : MethodName := ⟨RX7, "append", "(I)I"⟩
abbrev cX7_clearBuffer : ByteArray := prog_9_method_43_code
def yX7_clearBuffer : MethodName := ⟨RX7, "clearBuffer", "()I"⟩
abbrev cX7_next : ByteArray := prog_9_method_44_code
def yX7_next : MethodName := ⟨RX7, "next", "()I"⟩
abbrev cX7_takes : ByteArray := prog_9_method_45_code
def yX7_takes : MethodName := ⟨RX7, "takes", "(I)Z"⟩
abbrev cX7_readsDigit : ByteArray := prog_9_method_46_code
def yX7_readsDigit : MethodName := ⟨RX7, "readsDigit", "(III)Z"⟩
abbrev cX7_readsDays : ByteArray := prog_9_method_47_code
def yX7_readsDays : MethodName := ⟨RX7, "readsDays", "()Z"⟩
abbrev cX7_readsPart : ByteArray := prog_9_method_48_code
def yX7_readsPart : MethodName := ⟨RX7, "readsPart", "()Z"⟩
abbrev cX7_findError : ByteArray := prog_9_method_49_code
def yX7_findError : MethodName := ⟨RX7, "findError", "()I"⟩
abbrev cX7_firstError : ByteArray := prog_9_method_50_code
def yX7_firstError : MethodName := ⟨RX7, "firstError", "()I"⟩
abbrev cX7_doesPart : ByteArray := prog_9_method_51_code
def yX7_doesPart : MethodName := ⟨RX7, "doesPart", "(I)Z"⟩
abbrev cX7_play : ByteArray := prog_9_method_52_code
def yX7_play : MethodName := ⟨RX7, "play", "()I"⟩
abbrev cX7_tellsPerson : ByteArray := prog_9_method_53_code
def yX7_tellsPerson : MethodName := ⟨RX7, "tellsPerson", "(II)I"⟩
abbrev cX7_person : ByteArray := prog_9_method_54_code
def yX7_person : MethodName := ⟨RX7, "person", "(II)I"⟩
abbrev cX7_rehearsed : ByteArray := prog_9_method_55_code
def yX7_rehearsed : MethodName := ⟨RX7, "rehearsed", "(III)I"⟩
abbrev cX7_kind : ByteArray := prog_9_method_56_code
def yX7_kind : MethodName := ⟨RX7, "kind", "(III)I"⟩
abbrev cX7_tellsScene : ByteArray := prog_9_method_57_code
def yX7_tellsScene : MethodName := ⟨RX7, "tellsScene", "(II)I"⟩
abbrev cX7_sceneOf : ByteArray := prog_9_method_58_code
def yX7_sceneOf : MethodName := ⟨RX7, "sceneOf", "(II)I"⟩
abbrev cX7_shotScenes : ByteArray := prog_9_method_59_code
def yX7_shotScenes : MethodName := ⟨RX7, "shotScenes", "()I"⟩
abbrev cX7_openScenes : ByteArray := prog_9_method_60_code
def yX7_openScenes : MethodName := ⟨RX7, "openScenes", "()I"⟩
abbrev cX7_tellsCount : ByteArray := prog_9_method_61_code
def yX7_tellsCount : MethodName := ⟨RX7, "tellsCount", "(I)I"⟩
abbrev cX7_count : ByteArray := prog_9_method_62_code
def yX7_count : MethodName := ⟨RX7, "count", "(I)I"⟩
abbrev cX7_refusal : ByteArray := prog_9_method_63_code
def yX7_refusal : MethodName := ⟨RX7, "refusal", "(II)I"⟩
abbrev cX7_firstDay : ByteArray := prog_9_method_64_code
def yX7_firstDay : MethodName := ⟨RX7, "firstDay", "(II)I"⟩
abbrev cX7_soonest : ByteArray := prog_9_method_65_code
def yX7_soonest : MethodName := ⟨RX7, "soonest", "(II)I"⟩
abbrev cX7_lacking : ByteArray := prog_9_method_66_code
def yX7_lacking : MethodName := ⟨RX7, "lacking", "(II)I"⟩
abbrev cX7_rankFor : ByteArray := prog_9_method_67_code
def yX7_rankFor : MethodName := ⟨RX7, "rankFor", "(II)I"⟩
abbrev cX7_bestFor : ByteArray := prog_9_method_68_code
def yX7_bestFor : MethodName := ⟨RX7, "bestFor", "(I)I"⟩
abbrev cX7_best : ByteArray := prog_9_method_69_code
def yX7_best : MethodName := ⟨RX7, "best", "(I)I"⟩
abbrev cX7_cost : ByteArray := prog_9_method_70_code
def yX7_cost : MethodName := ⟨RX7, "cost", "(II)I"⟩
abbrev cX7_stoppedBy : ByteArray := prog_9_method_71_code
def yX7_stoppedBy : MethodName := ⟨RX7, "stoppedBy", "(II)I"⟩
abbrev cX7_ifHurt : ByteArray := prog_9_method_72_code
def yX7_ifHurt : MethodName := ⟨RX7, "ifHurt", "(II)I"⟩
abbrev cX7_share : ByteArray := prog_9_method_73_code
def yX7_share : MethodName := ⟨RX7, "share", "()D"⟩
abbrev cX7_shotShare : ByteArray := prog_9_method_74_code
def yX7_shotShare : MethodName := ⟨RX7, "shotShare", "()D"⟩
abbrev cX7_mix : ByteArray := prog_9_method_75_code
def yX7_mix : MethodName := ⟨RX7, "mix", "(J)V"⟩
abbrev cX7_mixPerson : ByteArray := prog_9_method_76_code
def yX7_mixPerson : MethodName := ⟨RX7, "mixPerson", "(I)V"⟩
abbrev cX7_mixScene : ByteArray := prog_9_method_77_code
def yX7_mixScene : MethodName := ⟨RX7, "mixScene", "(I)V"⟩
abbrev cX7_digest : ByteArray := prog_9_method_78_code
def yX7_digest : MethodName := ⟨RX7, "digest", "()J"⟩
def RJxe99ae : String := "java/lang/Double"
def TJxe99ae : u_T := fun k => match k with
  | _ => ("", "", "", false)
def tyJxe99ae : Nat → FieldType := fun k => match k with
  | _ => .int
abbrev wsJxe99ae0 : List Cond := u_ws RJxe99ae TJxe99ae 0
theorem nmJxe99ae : ∀ a, a < 0 → ∀ b, b < 0 → a ≠ b → (TJxe99ae a).2.1 ≠ (TJxe99ae b).2.1 := by decide +kernel
theorem tyJxe99ae_ok : ∀ k, k < 0 → parseFieldDescriptor (TJxe99ae k).2.2.1 = some (tyJxe99ae k) := by decide +kernel
abbrev cJxe99ae_isNaN_b9ae7 : ByteArray := prog_10_method_6_code
def yJxe99ae_isNaN_b9ae7 : MethodName := ⟨RJxe99ae, "isNaN", "(D)Z"⟩
abbrev cJxe99ae_doubleToLongBits_ccdee : ByteArray := prog_10_method_23_code
def yJxe99ae_doubleToLongBits_ccdee : MethodName := ⟨RJxe99ae, "doubleToLongBits", "(D)J"⟩
def RJ0 : String := "java/lang/String"
def TJ0 : u_T := fun k => match k with
  | _ => ("", "", "", false)
def tyJ0 : Nat → FieldType := fun k => match k with
  | _ => .int
abbrev wsJ00 : List Cond := u_ws RJ0 TJ0 0
theorem nmJ0 : ∀ a, a < 0 → ∀ b, b < 0 → a ≠ b → (TJ0 a).2.1 ≠ (TJ0 b).2.1 := by decide +kernel
theorem tyJ0_ok : ∀ k, k < 0 → parseFieldDescriptor (TJ0 k).2.2.1 = some (tyJ0 k) := by decide +kernel
def RL : String := "StuntDeskLaw"
abbrev cL_size : ByteArray := method_3_code
def yL_size : MethodName := ⟨RL, "size", "(LStuntDesk;II[J)I"⟩
abbrev cL_pass : ByteArray := method_4_code
def yL_pass : MethodName := ⟨RL, "pass", "(LStuntDesk;I[J)I"⟩
abbrev cL_rehearse : ByteArray := method_5_code
def yL_rehearse : MethodName := ⟨RL, "rehearse", "(LStuntDesk;III[J)I"⟩
abbrev cL_hurt : ByteArray := method_6_code
def yL_hurt : MethodName := ⟨RL, "hurt", "(LStuntDesk;III[J)I"⟩
abbrev cL_insure : ByteArray := method_7_code
def yL_insure : MethodName := ⟨RL, "insure", "(LStuntDesk;II[J)I"⟩
abbrev cL_scene : ByteArray := method_8_code
def yL_scene : MethodName := ⟨RL, "scene", "(LStuntDesk;III[J)I"⟩
abbrev cL_shoot : ByteArray := method_9_code
def yL_shoot : MethodName := ⟨RL, "shoot", "(LStuntDesk;II[J)I"⟩
abbrev cL_append : ByteArray := method_10_code
def yL_append : MethodName := ⟨RL, "append", "(LStuntDesk;I[J)I"⟩
abbrev cL_play : ByteArray := method_11_code
def yL_play : MethodName := ⟨RL, "play", "(LStuntDesk;[J)I"⟩
abbrev cL_undo : ByteArray := method_12_code
def yL_undo : MethodName := ⟨RL, "undo", "(LStuntDesk;[J)I"⟩
abbrev cL_person : ByteArray := method_13_code
def yL_person : MethodName := ⟨RL, "person", "(LStuntDesk;II[J)I"⟩
abbrev cL_rehearsed : ByteArray := method_14_code
def yL_rehearsed : MethodName := ⟨RL, "rehearsed", "(LStuntDesk;III[J)I"⟩
abbrev cL_kind : ByteArray := method_15_code
def yL_kind : MethodName := ⟨RL, "kind", "(LStuntDesk;III[J)I"⟩
abbrev cL_sceneOf : ByteArray := method_16_code
def yL_sceneOf : MethodName := ⟨RL, "sceneOf", "(LStuntDesk;II[J)I"⟩
abbrev cL_count : ByteArray := method_17_code
def yL_count : MethodName := ⟨RL, "count", "(LStuntDesk;I[J)I"⟩
abbrev cL_refusal : ByteArray := method_18_code
def yL_refusal : MethodName := ⟨RL, "refusal", "(LStuntDesk;II[J)I"⟩
abbrev cL_soonest : ByteArray := method_19_code
def yL_soonest : MethodName := ⟨RL, "soonest", "(LStuntDesk;II[J)I"⟩
abbrev cL_lacking : ByteArray := method_20_code
def yL_lacking : MethodName := ⟨RL, "lacking", "(LStuntDesk;II[J)I"⟩
abbrev cL_best : ByteArray := method_21_code
def yL_best : MethodName := ⟨RL, "best", "(LStuntDesk;I[J)I"⟩
abbrev cL_cost : ByteArray := method_22_code
def yL_cost : MethodName := ⟨RL, "cost", "(LStuntDesk;II[J)I"⟩
abbrev cL_ifHurt : ByteArray := method_23_code
def yL_ifHurt : MethodName := ⟨RL, "ifHurt", "(LStuntDesk;II[J)I"⟩
abbrev cL_law : ByteArray := code
def yL_law : MethodName := ⟨RL, "law", "([I)Z"⟩
abbrev vwCl : List vw_C := [(RX0, TX0, 4), (RX1, TX1, 2), (RX2, TX2, 5), (RX3, TX3, 2), (RX4, TX4, 6), (RX5, TX5, 11), (RX6, TX6, 3), (RX7, TX7, 9)]
end
section
/-! ===== BEGIN words of one list among another's, by their places ===== -/
theorem goodIn_r {big : List Cond} (ws : List Cond) (ps : List Nat) (hp : ws = ps.filterMap (fun i => big[i]?)) (h : ws.all goodWord = true) : GoodIn big ws := by
  intro w hw
  have h1 := List.all_eq_true.mp h w hw
  rw [hp] at hw
  obtain ⟨i, -, hi⟩ := List.mem_filterMap.mp hw
  have hm : w ∈ big := by first | exact List.mem_of_getElem? hi | exact List.getElem?_mem hi
  exact ⟨hm, good_of_word h1⟩
theorem goodIn_app {big a b : List Cond} (ha : GoodIn big a) (hb : GoodIn big b) : GoodIn big (a ++ b) := fun w h => (List.mem_append.mp h).elim (ha w) (hb w)
theorem goodIn_ca {big a b : List Cond} {c : Cond} (ha : GoodIn big (c :: a)) (hb : GoodIn big b) : GoodIn big (c :: (a ++ b)) := fun w h => (List.mem_cons.mp h).elim (fun e => ha w (List.mem_cons.mpr (Or.inl e))) (fun h => (List.mem_append.mp h).elim (fun h => ha w (List.mem_cons.mpr (Or.inr h))) (hb w))
theorem goodIn_sub {big ws : List Cond} (hm : ∀ w ∈ ws, w ∈ big) (h : ws.all goodWord = true) : GoodIn big ws := fun w hw => ⟨hm w hw, good_of_word (List.all_eq_true.mp h w hw)⟩
/-! ===== END ===== -/

/-! ===== BEGIN exceptions that leave a method, and their catching by the caller (launches without stack traces) ===== -/
section VXA
/-! The laws vx_back, vx_callV, vx_callS, vx_callSW, vx_throw0, vx_throwS follow proofs of the library, with one case more: JvmDerived/Free/Laws.lean (Back.of_free), Shelf42/LK1.lean (callV, callS), Shelf/KitTraced.lean (throwNew0V, throwNewS). -/
/-- where a method has thrown q: the class by its name, the cell, what was written, the world -/
def vx_T (XC : String → State → State → Prop) (st : State) (q : Addr) (t : State) (mc ms : Nat) (free : Addr → Prop) : Prop :=
  ∃ (E : String) (ce : Cell) (L : List Loc), XC E st t ∧ t.heap[q]? = some ce ∧ ce.vm = .none ∧ st.vm.findClass E = some ce.cls ∧ st.WarmedH t.vm ∧ st.sameButNew ({ t with vm := st.vm } : State) L mc ms ∧ ∀ z ∈ L, free z.base
def vx_Q (Qc : Array Value → State → Outcome → State → Prop) (XC : String → State → State → Prop) (mc ms : Nat) (free : Addr → Prop) : Array Value → State → Outcome → State → Prop := fun a st o t =>
  (Qc a st o t ∧ ∃ L, FrameEnd st o t L mc ms ∧ ∀ q ∈ L, free q.base) ∨ ∃ q, o = .threw q ∧ vx_T XC st q t mc ms free
/-- a callee that returns or throws -/
def vx_Met (l : Launch) (y : MethodName) (ws : List Cond) (rm : Room) (Pc : Array Value → State → Prop) (Qc : Array Value → State → Outcome → State → Prop) (XC : String → State → State → Prop) (mc ms : Nat) (free : Addr → Prop) : Prop :=
  MetFree l y (headSpec ws rm) Pc (fun _ _ _ _ _ => True) (vx_Q Qc XC mc ms free)
def vx_Post (XC : String → State → State → Prop) (mc ms : Nat) (free : Addr → Prop) : Pt → Array Value → Addr → Pt → Prop := fun A a q B =>
  ∃ (g : JFrame) (mk : MethodId) (t : State) (L : List Loc) (E : String) (ce : Cell), B.U.heap = t.heap ∧ B.U.vm = t.vm ∧ XC E (A.U.calling g mk a) t ∧ t.heap[q]? = some ce ∧ ce.vm = .none ∧ A.U.vm.findClass E = some ce.cls ∧ B.locs = A.locs ++ L ∧ (∀ z ∈ L, free z.base) ∧ B.cells = A.cells + mc ∧ B.slots = A.slots + ms
def vx_Back (l : Launch) (R : Room) (p : Program) (e : Env) (below : List Frame) (s : State) (sargs : Array Value) (y : MethodName) (len W9 : Nat)
    (Pre : Pt → Array Value → Prop) (Post : Pt → Array Value → Option Value → Pt → Prop) (PostX : Pt → Array Value → Addr → Pt → Prop) : Prop :=
  ∀ (m : MethodId) (meth : Method) (c : Code) (A : Pt) (g : JFrame) (ig : Instr) (mk : MethodId) (a : Array Value),
    Stand p l e R s m sargs below meth c A.U A.locs A.cells A.slots → g.method = m → g.locals.size = c.maxLocals → decode c.code g.pc = .ok (ig, len) →
    2 * g.monitorRoom + (g.stack.map fun v => v.category).sum ≤ W9 → A.U.methodNamed? y = some mk → Pre A a →
    (∃ (v : Option Value) (B : Pt), Stand p l e R s m sargs below meth c B.U B.locs B.cells B.slots ∧ Post A a v B ∧
      Steps p.tables e below (doInvoke e (A.U.setTop g) [] mk a).1 (B.U.setTop { g with pc := g.pc + len, stack := v.toList ++ g.stack })) ∨
    (∃ (q : Addr) (B : Pt), Stand p l e R s m sargs below meth c B.U B.locs B.cells B.slots ∧ PostX A a q B ∧
      Steps p.tables e below (doInvoke e (A.U.setTop g) [] mk a).1 ((B.U.setTop g).pushFrame (.throwing q)))
section Payer
variable {l : Launch} {R : Room} {p : Program} {e : Env} {below : List Frame} {s : State} {sargs : Array Value} {y : MethodName} {len W9 : Nat}
theorem vx_back {ws : List Cond} {rm : Room} {Pc : Array Value → State → Prop} {Qc : Array Value → State → Outcome → State → Prop} {XC : String → State → State → Prop} {mc ms : Nat} {free : Addr → Prop} {bytes : ByteArray} {maxL : Nat} {ret : Option FieldType}
    (hM : vx_Met l y ws rm Pc Qc XC mc ms free) (hblind : FrameBlind Pc) (hrc : rm.cells = mc) (hrs : rm.slots = ms)
    (hframes : rm.frames + 1 ≤ R.frames) (hlocals : W9 + (maxL + 11) + rm.locals ≤ R.locals)
    (hws : ∀ w ∈ ws, ∀ a' U, s.WarmedH U.vm → w.before a' U = true) (hcode : Cond.code y bytes maxL ret ∈ ws) (hinit : ∀ a' U, s.WarmedH U.vm → (Cond.initialized y.cls).before a' U = true) :
    vx_Back l R p e below s sargs y len W9 (PreOf R mc ms Pc) (PostOf Qc mc ms free) (vx_Post XC mc ms free) := by
  intro m meth c A g ig mk a X hg hsize hdg hW hn hp
  have h1 : (headSpec ws rm).pre.before a A.U = true := atoms_intro fun w hw => hws w hw _ _ X.warmed
  have h2 : (Cond.code y bytes maxL ret).before a A.U = true := hws _ hcode _ _ X.warmed
  have h3 : (Cond.initialized y.cls).before a A.U = true := hinit _ _ X.warmed
  have h4 : A.cells + (headSpec ws rm).room.cells ≤ R.cells := by rw [show (headSpec ws rm).room.cells = mc from hrc]; exact hp.1
  have h5 : A.slots + (headSpec ws rm).room.slots ≤ R.slots := by rw [show (headSpec ws rm).room.slots = ms from hrs]; exact hp.2.1
  have hPc : Pc a (A.U.calling g mk a) := hblind _ _ _ _ hp.2.2
  obtain ⟨U, Ls, c0, s0⟩ := A
  dsimp only [Pt.U, Pt.locs, Pt.cells, Pt.slots] at h1 h2 h3 h4 h5 X hn hPc ⊢
  obtain ⟨methY, cY, hmY, hcY, -, hlY, -, -, -, -⟩ := Cond.code_spec hn h2
  obtain ⟨kY, hkY, -⟩ := className_of_methodNamed hn
  have hinitY : kY.init = .initialized := Cond.initialized_spec (findClass_of_methodNamed hn) hkY h3
  have h : At U g.method c below := by rw [hg]; exact X.here
  have hlocals9 : W9 + (maxL + 11) + (headSpec ws rm).room.locals ≤ R.locals := hlocals
  have happ : (headSpec ws rm).appliesLoose y e.platform (U.calling g mk a) = true :=
    Spec.appliesLoose_calling (g := g) h hdg hn hkY hinitY
      (X.room_calling (g := g) (R' := (headSpec ws rm).room) hsize hmY hcY hframes (by rw [hlY]; omega) h4 h5) h1
  obtain ⟨mid, hmid⟩ := h.above
  have hfr : (U.setTop g).frames = (.java g :: mid) ++ below := by rw [State.frames_setTop' g h.top, hmid]; rfl
  obtain ⟨o, s₂, hsteps, -, hend, hq⟩ := Steps.callFree hM p X.admits X.cas X.clock (acts := []) hfr happ hPc trivial
  have hq' : vx_Q Qc XC mc ms free a (U.calling g mk a) o s₂ := hq
  rw [State.frames_setTop' g h.top] at hend
  obtain ⟨g₀, hg0⟩ := Option.isSome_iff_exists.mp h.top
  obtain ⟨r, hr⟩ := State.topJava?_eq_some.mp hg0
  have hr' : (({ U with heap := s₂.heap, slotsUsed := s₂.slotsUsed } : State).setVm s₂.vm).frames = .java g₀ :: r := hr
  rcases hq' with ⟨hqc, L, hfe, hL⟩ | ⟨q, rfl, E, ce, L, hx, hce, hcv, hcl, hW₂, hsm, hL⟩
  · obtain ⟨⟨v, rfl⟩, hW₂, e2, q2, q3, q4, q5, q6⟩ := id hfe
    have e3 : s₂ = ({ (U.calling g mk a).setFrames s₂.frames with heap := s₂.heap, slotsUsed := s₂.slotsUsed } : State).setVm s₂.vm := by
      have : s₂ = ({ s₂ with vm := (U.calling g mk a).vm } : State).setVm s₂.vm := rfl
      rw [e2] at this
      exact this
    obtain ⟨c₂, i₂, len₂, hc₂, hd₂, hf₂⟩ := hend
    have hW' : U.WarmedH s₂.vm := hW₂
    have hcc : c₂ = c := by
      have h1 : s₂.code? g.method = U.code? g.method := by
        rw [State.code?_eq, State.code?_eq, hW'.alike.method?]
      exact Option.some.inj (hc₂.symm.trans (h1.trans h.code))
    subst hcc
    have hlen : len₂ = len := by rw [hdg] at hd₂; cases hd₂; rfl
    subst hlen
    have hs₂ : s₂ = (({ U with heap := s₂.heap, slotsUsed := s₂.slotsUsed } : State).setVm s₂.vm).setTop { g with pc := g.pc + len₂, stack := v.toList ++ g.stack } := by
      refine e3.trans ?_
      rw [hf₂, State.calling_eq h.top, State.setFrames_setFrames, State.setTop_of_frames _ hr', hr]
      rfl
    have hsame : U.sameButNew ({ U with heap := s₂.heap, slotsUsed := s₂.slotsUsed } : State) L mc ms := by
      refine ⟨?_, q2, q3, q4, q5, q6⟩
      obtain ⟨t, ht, -⟩ := State.frames_cons hr
      show ({ U with heap := s₂.heap, slotsUsed := s₂.slotsUsed } : State) = { U.setFrames U.frames with heap := s₂.heap, slotsUsed := s₂.slotsUsed }
      rw [State.setFrames_self ht]
    subst hg
    refine Or.inl ⟨v, ⟨(({ U with heap := s₂.heap, slotsUsed := s₂.slotsUsed } : State).setVm s₂.vm), Ls ++ L, c0 + mc, s0 + ms⟩,
      ⟨X.admits, X.cas, X.clock, X.frames, X.room, X.hears, X.method, X.code, (X.here.setHeapUsed s₂.heap s₂.slotsUsed).setVm hW'.alike, X.tail, State.WarmedH.trans X.warmed hW', X.limits, X.bytes, X.same.trans (hsame.setVm s.vm)⟩,
      ⟨g, mk, s₂, L, rfl, rfl, hqc, rfl, hL, rfl, rfl⟩, ?_⟩
    show Steps p.tables e below _ ((({ U with heap := s₂.heap, slotsUsed := s₂.slotsUsed } : State).setVm s₂.vm).setTop { g with pc := g.pc + len₂, stack := v.toList ++ g.stack })
    rw [← hs₂]
    exact hsteps
  · obtain ⟨e2, q2, q3, q4, q5, q6⟩ := id hsm
    have e3 : s₂ = ({ (U.calling g mk a).setFrames s₂.frames with heap := s₂.heap, slotsUsed := s₂.slotsUsed } : State).setVm s₂.vm := by
      have : s₂ = ({ s₂ with vm := (U.calling g mk a).vm } : State).setVm s₂.vm := rfl
      rw [e2] at this
      exact this
    have hf₂ : s₂.frames = .throwing q :: .java g :: U.frames.tail := hend
    have hW' : U.WarmedH s₂.vm := hW₂
    have hs₂ : s₂ = ((({ U with heap := s₂.heap, slotsUsed := s₂.slotsUsed } : State).setVm s₂.vm).setTop g).pushFrame (.throwing q) := by
      refine e3.trans ?_
      rw [hf₂, State.calling_eq h.top, State.setFrames_setFrames, State.pushFrame, State.frames_setTop _ hr', State.setTop_of_frames _ hr', State.setFrames_setFrames, hr]
      rfl
    have hsame : U.sameButNew ({ U with heap := s₂.heap, slotsUsed := s₂.slotsUsed } : State) L mc ms := by
      refine ⟨?_, q2, q3, q4, q5, q6⟩
      obtain ⟨t, ht, -⟩ := State.frames_cons hr
      show ({ U with heap := s₂.heap, slotsUsed := s₂.slotsUsed } : State) = { U.setFrames U.frames with heap := s₂.heap, slotsUsed := s₂.slotsUsed }
      rw [State.setFrames_self ht]
    subst hg
    refine Or.inr ⟨q, ⟨(({ U with heap := s₂.heap, slotsUsed := s₂.slotsUsed } : State).setVm s₂.vm), Ls ++ L, c0 + mc, s0 + ms⟩,
      ⟨X.admits, X.cas, X.clock, X.frames, X.room, X.hears, X.method, X.code, (X.here.setHeapUsed s₂.heap s₂.slotsUsed).setVm hW'.alike, X.tail, State.WarmedH.trans X.warmed hW', X.limits, X.bytes, X.same.trans (hsame.setVm s.vm)⟩,
      ⟨g, mk, s₂, L, E, ce, rfl, rfl, hx, hce, hcv, hcl, rfl, hL, rfl, rfl⟩, ?_⟩
    show Steps p.tables e below _ (((({ U with heap := s₂.heap, slotsUsed := s₂.slotsUsed } : State).setVm s₂.vm).setTop g).pushFrame (.throwing q))
    rw [← hs₂]
    exact hsteps
end Payer
section Calls
variable {p : Program} {l : Launch} {e : Env} {R : Room} {s : State} {m : MethodId} {args : Array Value} {below : List Frame} {meth : Method} {c : Code} {T : State} {locs : List Loc} {cells slots : Nat}
theorem vx_callV (X : Stand p l e R s m args below meth c T locs cells slots) (hexec : p.tables.exec = Jvm.exec) {own C : String} {index : Nat} {y : MethodName} {bytes : ByteArray} {maxL : Nat} {ret : Option FieldType}
    (hown : s.vm.findClass own = some m.cls) (hlink : (Cond.methodLink own index y).before args s = true) (hinst : (Cond.instanceMethod y).before args s = true) (hsel : (Cond.selects C y y).before args s = true)
    (hcode : (Cond.code y bytes maxL ret).before args s = true) (hy : y.cls ≠ "java/lang/invoke/MethodHandle" ∧ y.cls ≠ "java/lang/invoke/VarHandle")
    {W9 : Nat} {Pre : Pt → Array Value → Prop} {Post : Pt → Array Value → Option Value → Pt → Prop} {PostX : Pt → Array Value → Addr → Pt → Prop} (hK : vx_Back l R p e below s args y 3 W9 Pre Post PostX)
    {b : Addr} {cellB : Cell} (hcell : T.heap[b]? = some cellB) (hobj : cellB.vm.isStatics = false) (hcls : s.vm.findClass C = some cellB.cls)
    {g : JFrame} (hg : g.method = m) (hsize : g.locals.size = c.maxLocals) {argsL rest : List Value} (hlen : ∀ sig, parseMethodDescriptor y.desc = some sig → argsL.length = sig.parameters.length)
    (hstack : g.stack = argsL.reverse ++ .ref b :: rest) (hW : 2 * g.monitorRoom + (rest.map fun v => v.category).sum ≤ W9) (hdg : decode c.code g.pc = .ok (.invokevirtual index, 3))
    (hpre : ∀ vm₁, s.WarmedH vm₁ → Pre ⟨T.setVm vm₁, locs, cells, slots⟩ (Value.ref b :: argsL).toArray) :
    (∃ (v : Option Value) (vm₁ : Vm) (B : Pt), s.WarmedH vm₁ ∧ Stand p l e R s m args below meth c B.U B.locs B.cells B.slots ∧ Post ⟨T.setVm vm₁, locs, cells, slots⟩ (Value.ref b :: argsL).toArray v B ∧
      ∀ target, Steps p.tables e below (B.U.setTop { g with pc := g.pc + 3, stack := v.toList ++ rest }) target → Steps p.tables e below (T.setTop g) target) ∨
    (∃ (q : Addr) (vm₁ : Vm) (B : Pt), s.WarmedH vm₁ ∧ Stand p l e R s m args below meth c B.U B.locs B.cells B.slots ∧ PostX ⟨T.setVm vm₁, locs, cells, slots⟩ (Value.ref b :: argsL).toArray q B ∧
      Steps p.tables e below (T.setTop g) ((B.U.setTop { g with stack := rest }).pushFrame (.throwing q))) := by
  obtain ⟨mk, methM, hnamed, hmethM, hstM, habM⟩ := Cond.instanceMethod_spec hinst
  obtain ⟨methM', cM, hmethM', -, -, -, -, -, -, hsigM⟩ := Cond.code_spec hnamed hcode
  cases hmethM.symm.trans hmethM'
  obtain ⟨c2, r2, m2, q1, q2, q3, q4, kP, hkP, hkPi⟩ := Cond.selects_spec hsel
  cases hcls.symm.trans q1
  cases (State.methodFound?_of_named hnamed hy).symm.trans q2
  cases hnamed.symm.trans q3
  have hselP : selectMethod e.platform s.vm cellB.cls mk = .method mk := by rw [Launch.admits_selectMethod X.admits]; exact q4
  obtain ⟨vm₁, X₁, hstep₁⟩ := X.invokevirtual hexec hown hlink hnamed hmethM hstM hkP hkPi hy (a := b) (cell := cellB) hcell
    (fun z h => by rw [h] at hobj; cases hobj) hselP hmethM habM hkP hkPi (g := g) hg (argsL := argsL) (rest := rest) (hlen _ hsigM) hstack hdg
  rcases hK m meth c ⟨T.setVm vm₁, locs, cells, slots⟩ { g with stack := rest } (.invokevirtual index) mk (Value.ref b :: argsL).toArray X₁ hg hsize hdg hW (X₁.named hnamed) (hpre vm₁ X₁.warmed) with ⟨v, B, X', hpost, hsteps⟩ | ⟨q, B, X', hpost, hsteps⟩
  · exact Or.inl ⟨v, vm₁, B, X₁.warmed, X', hpost, fun target h => hstep₁ _ fun acts => by rw [doInvoke_state]; exact hsteps.trans h⟩
  · exact Or.inr ⟨q, vm₁, B, X₁.warmed, X', hpost, hstep₁ _ fun acts => by rw [doInvoke_state]; exact hsteps⟩
theorem vx_callS (X : Stand p l e R s m args below meth c T locs cells slots) (hexec : p.tables.exec = Jvm.exec) {own : String} {index : Nat} {y : MethodName} {bytes : ByteArray} {maxL : Nat} {ret : Option FieldType}
    (hown : s.vm.findClass own = some m.cls) (hlink : (Cond.methodLink own index y).before args s = true) (hstat : (Cond.static y).before args s = true) (hinit : (Cond.initialized y.cls).before args s = true)
    (hcode : (Cond.code y bytes maxL ret).before args s = true) (hy : y.cls ≠ "java/lang/invoke/MethodHandle" ∧ y.cls ≠ "java/lang/invoke/VarHandle")
    {W9 : Nat} {Pre : Pt → Array Value → Prop} {Post : Pt → Array Value → Option Value → Pt → Prop} {PostX : Pt → Array Value → Addr → Pt → Prop} (hK : vx_Back l R p e below s args y 3 W9 Pre Post PostX)
    {g : JFrame} (hg : g.method = m) (hsize : g.locals.size = c.maxLocals) {argsL rest : List Value} (hlen : ∀ sig, parseMethodDescriptor y.desc = some sig → argsL.length = sig.parameters.length)
    (hstack : g.stack = argsL.reverse ++ rest) (hW : 2 * g.monitorRoom + (rest.map fun v => v.category).sum ≤ W9) (hdg : decode c.code g.pc = .ok (.invokestatic index, 3))
    (hpre : ∀ vm₁, s.WarmedH vm₁ → Pre ⟨T.setVm vm₁, locs, cells, slots⟩ argsL.toArray) :
    (∃ (v : Option Value) (vm₁ : Vm) (B : Pt), s.WarmedH vm₁ ∧ Stand p l e R s m args below meth c B.U B.locs B.cells B.slots ∧ Post ⟨T.setVm vm₁, locs, cells, slots⟩ argsL.toArray v B ∧
      ∀ target, Steps p.tables e below (B.U.setTop { g with pc := g.pc + 3, stack := v.toList ++ rest }) target → Steps p.tables e below (T.setTop g) target) ∨
    (∃ (q : Addr) (vm₁ : Vm) (B : Pt), s.WarmedH vm₁ ∧ Stand p l e R s m args below meth c B.U B.locs B.cells B.slots ∧ PostX ⟨T.setVm vm₁, locs, cells, slots⟩ argsL.toArray q B ∧
      Steps p.tables e below (T.setTop g) ((B.U.setTop { g with stack := rest }).pushFrame (.throwing q))) := by
  obtain ⟨mk, hnamed⟩ := Cond.code_named hcode
  obtain ⟨methM, cM, hmethM, -, -, -, -, -, -, hsigM⟩ := Cond.code_spec hnamed hcode
  have hstatic : methM.isStatic = true := Cond.static_spec hnamed hmethM hstat
  obtain ⟨kP, hkP, -⟩ := className_of_methodNamed hnamed
  have hinitP : kP.init = .initialized := Cond.initialized_spec (findClass_of_methodNamed hnamed) hkP hinit
  obtain ⟨vm₁, X₁, hstep₁⟩ := X.invokestatic hexec hown hlink hnamed hmethM hstatic hkP hinitP hy (g := g) hg (argsL := argsL) (rest := rest) (hlen _ hsigM) hstack hdg
  rcases hK m meth c ⟨T.setVm vm₁, locs, cells, slots⟩ { g with stack := rest } (.invokestatic index) mk argsL.toArray X₁ hg hsize hdg hW (X₁.named hnamed) (hpre vm₁ X₁.warmed) with ⟨v, B, X', hpost, hsteps⟩ | ⟨q, B, X', hpost, hsteps⟩
  · exact Or.inl ⟨v, vm₁, B, X₁.warmed, X', hpost, fun target h => hstep₁ _ fun acts => by rw [doInvoke_state]; exact hsteps.trans h⟩
  · exact Or.inr ⟨q, vm₁, B, X₁.warmed, X', hpost, hstep₁ _ fun acts => by rw [doInvoke_state]; exact hsteps⟩
end Calls
theorem vx_cls {s : State} {T : State} {vm₁ : Vm} {E : String} {k : ClassId} (hW : s.WarmedH vm₁) (h : (T.setVm vm₁).vm.findClass E = some k) : s.vm.findClass E = some k := by
  have h1 : vm₁.findClass E = some k := h
  rw [hW.alike.findClass] at h1
  exact h1
/-- the method's frame g, with q thrown over it -/
def vx_W (p : Program) (l : Launch) (e : Env) (R : Room) (s : State) (m : MethodId) (args : Array Value) (below : List Frame) (meth : Method) (c : Code) (H : Heap) (locs : List Loc) (cells slots : Nat) (Q : State → Prop) (g : JFrame) (q : Addr) : Prop :=
  ∀ T : State, T.heap = H → Stand p l e R s m args below meth c T locs cells slots → ∃ t, Steps p.tables e below ((T.setTop g).pushFrame (.throwing q)) t ∧ Q t
def vx_Run (p : Program) (l : Launch) (e : Env) (R : Room) (s : State) (m : MethodId) (args : Array Value) (below : List Frame) (meth : Method) (c : Code) (H : Heap) (locs : List Loc) (cells slots mc ms : Nat) (g : JFrame) (rest : List Value) (Qa : State → Outcome → State → Prop) (XC : String → State → State → Prop) (free : Addr → Prop) : Prop :=
  ∀ T : State, T.heap = H → Stand p l e R s m args below meth c T locs cells slots →
    (∃ (v : Option Value) (st₀ t T' : State) (L : List Loc), st₀.heap = H ∧ Stand p l e R s m args below meth c T' (locs ++ L) (cells + mc) (slots + ms) ∧ (∀ q ∈ L, free q.base) ∧ T'.heap = t.heap ∧ T'.vm = t.vm ∧ Qa st₀ (.returned v) t ∧
      Goes p e below T g T' { g with pc := g.pc + 3, stack := v.toList ++ rest }) ∨
    (∃ (q : Addr) (st₀ t T' : State) (L : List Loc) (E : String) (ce : Cell), st₀.heap = H ∧ Stand p l e R s m args below meth c T' (locs ++ L) (cells + mc) (slots + ms) ∧ (∀ z ∈ L, free z.base) ∧ T'.heap = t.heap ∧ T'.vm = t.vm ∧ XC E st₀ t ∧ t.heap[q]? = some ce ∧ ce.vm = .none ∧ s.vm.findClass E = some ce.cls ∧
      Steps p.tables e below (T.setTop g) ((T'.setTop { g with stack := rest }).pushFrame (.throwing q)))
def vx_X {S : Type} (px : S → Prop) (B : String → S → State → Prop) (A : Nat → Prop) : String → State → State → Prop := fun E st t => ∃ u : S, px u ∧ B E u t ∧ va_F A st t
section Runs
variable {p : Program} {l : Launch} {e : Env} {R : Room} {s : State} {m : MethodId} {args : Array Value} {below : List Frame} {meth : Method} {c : Code} {H : Heap} {locs : List Loc} {cells slots : Nat}
variable {y : MethodName} {bytes cc : ByteArray} {maxL nL mc ms n index : Nat} {ret : Option FieldType} {ws : List Cond} {rm : Room} {Pc : Array Value → State → Prop} {Qc : Array Value → State → Outcome → State → Prop} {XC : String → State → State → Prop} {free : Addr → Prop} {Ts : List Cond} {own C : String} {b : Addr} {As rest : List Value} {g : JFrame}
theorem vx_callBack (cb : CallB R s args own index y bytes maxL ret ws rm mc ms n) (hM : vx_Met l y ws rm Pc Qc XC mc ms free) (hbl : FrameBlind Pc) : vx_Back l R p e below s args y 3 8 (PreOf R mc ms Pc) (PostOf Qc mc ms free) (vx_Post XC mc ms free) := by
  obtain ⟨hrc, hrs, hfr, hlo, hws, hcw, -, hini, -⟩ := cb
  exact vx_back (bytes := bytes) (maxL := maxL) (ret := ret) hM hbl hrc hrs hfr hlo hws hcw (fun a' U hW => word_at hW (Or.inl (by first | rfl | simp [Cond.onTables, Cond.keeps, Cond.steady])) hini)
theorem vx_runV (S : CallFix p m c cc nL s args Ts own) (hM : vx_Met l y ws rm Pc Qc XC mc ms free) (cw : CallW R s args own C index y bytes maxL ret ws rm mc ms n) (hp : PreV s H C b Pc As)
    (hg : g.method = m) (hn : As.length = n) (hsize : g.locals.size = nL) (hstack : g.stack = As.reverse ++ .ref b :: rest) (hW : 2 * g.monitorRoom + (rest.map fun v => v.category).sum ≤ 8) (hdg : decode cc g.pc = .ok (.invokevirtual index, 3)) (hf : cells + mc ≤ R.cells ∧ slots + ms ≤ R.slots) :
    vx_Run p l e R s m args below meth c H locs cells slots mc ms g rest (Qc (Value.ref b :: As).toArray) XC free := by
  have hK : vx_Back l R p e below s args y 3 8 (PreOf R mc ms Pc) (PostOf Qc mc ms free) (vx_Post XC mc ms free) := vx_callBack cw.1 hM hp.1
  obtain ⟨⟨-, -, -, -, -, -, hcode, -, hy, hlen, hl⟩, hin, hse⟩ := cw
  obtain ⟨hx, hb, hml, ho, -⟩ := S
  obtain ⟨-, ⟨cellB, hcB, hoB, hclB⟩, hPc⟩ := hp
  intro T hT X
  rcases vx_callV X hx (C := C) (bytes := bytes) (maxL := maxL) (ret := ret) ho hl hin hse hcode hy hK (by rw [hT]; exact hcB) hoB hclB hg (hsize.trans hml.symm) (argsL := As) (rest := rest) (fun sig h => hn.trans (hlen sig h)) hstack hW (by rw [hb]; exact hdg)
    (fun vm₁ hW₁ => ⟨hf.1, hf.2, hPc (T.setVm vm₁) hT hW₁⟩) with ⟨v, vm₁, ⟨U', l2, c2, s2⟩, hW₁, X', ⟨g', mk, t, L, e1, e2, hq, h1, hL, h2, h3⟩, st⟩ | ⟨q, vm₁, ⟨U', l2, c2, s2⟩, hW₁, X', ⟨g', mk, t, L, E, ce, e1, e2, hq, hce, hcv, hcl, h1, hL, h2, h3⟩, st⟩
  · dsimp only [Pt.U, Pt.locs, Pt.cells, Pt.slots] at X' e1 e2 h1 h2 h3 st
    subst h1; subst h2; subst h3
    exact Or.inl ⟨v, (T.setVm vm₁).calling g' mk (Value.ref b :: As).toArray, t, U', L, hT, X', hL, e1, e2, hq, st⟩
  · dsimp only [Pt.U, Pt.locs, Pt.cells, Pt.slots] at X' e1 e2 h1 h2 h3 st hcl
    subst h1; subst h2; subst h3
    exact Or.inr ⟨q, (T.setVm vm₁).calling g' mk (Value.ref b :: As).toArray, t, U', L, E, ce, hT, X', hL, e1, e2, hq, hce, hcv, vx_cls hW₁ hcl, st⟩
theorem vx_runS (S : CallFix p m c cc nL s args Ts own) (hM : vx_Met l y ws rm Pc Qc XC mc ms free) (cw : CallB R s args own index y bytes maxL ret ws rm mc ms n ∧ (Cond.static y).before args s = true) (hp : PreS s H Pc As)
    (hg : g.method = m) (hn : As.length = n) (hsize : g.locals.size = nL) (hstack : g.stack = As.reverse ++ rest) (hW : 2 * g.monitorRoom + (rest.map fun v => v.category).sum ≤ 8) (hdg : decode cc g.pc = .ok (.invokestatic index, 3)) (hf : cells + mc ≤ R.cells ∧ slots + ms ≤ R.slots) :
    vx_Run p l e R s m args below meth c H locs cells slots mc ms g rest (Qc As.toArray) XC free := by
  have hK : vx_Back l R p e below s args y 3 8 (PreOf R mc ms Pc) (PostOf Qc mc ms free) (vx_Post XC mc ms free) := vx_callBack cw.1 hM hp.1
  obtain ⟨⟨-, -, -, -, -, -, hcode, hini, hy, hlen, hl⟩, hstt⟩ := cw
  obtain ⟨hx, hb, hml, ho, -⟩ := S
  intro T hT X
  rcases vx_callS X hx (bytes := bytes) (maxL := maxL) (ret := ret) ho hl hstt hini hcode hy hK hg (hsize.trans hml.symm) (argsL := As) (rest := rest) (fun sig h => hn.trans (hlen sig h)) hstack hW (by rw [hb]; exact hdg)
    (fun vm₁ hW₁ => ⟨hf.1, hf.2, hp.2 (T.setVm vm₁) hT hW₁⟩) with ⟨v, vm₁, ⟨U', l2, c2, s2⟩, hW₁, X', ⟨g', mk, t, L, e1, e2, hq, h1, hL, h2, h3⟩, st⟩ | ⟨q, vm₁, ⟨U', l2, c2, s2⟩, hW₁, X', ⟨g', mk, t, L, E, ce, e1, e2, hq, hce, hcv, hcl, h1, hL, h2, h3⟩, st⟩
  · dsimp only [Pt.U, Pt.locs, Pt.cells, Pt.slots] at X' e1 e2 h1 h2 h3 st
    subst h1; subst h2; subst h3
    exact Or.inl ⟨v, (T.setVm vm₁).calling g' mk As.toArray, t, U', L, hT, X', hL, e1, e2, hq, st⟩
  · dsimp only [Pt.U, Pt.locs, Pt.cells, Pt.slots] at X' e1 e2 h1 h2 h3 st hcl
    subst h1; subst h2; subst h3
    exact Or.inr ⟨q, (T.setVm vm₁).calling g' mk As.toArray, t, U', L, E, ce, hT, X', hL, e1, e2, hq, hce, hcv, vx_cls hW₁ hcl, st⟩
end Runs
section Rows
variable {p : Program} {l : Launch} {e : Env} {R : Room} {s : State} {m : MethodId} {args : Array Value} {below : List Frame} {meth : Method} {c : Code} {H : Heap} {locs : List Loc} {cells slots : Nat} {Q : State → Prop}
variable {mc ms : Nat} {free : Addr → Prop} {A0 A1 : Nat → Prop} {H0 : Heap} {a : Array Value} {pc : Nat} {ls : Array Slot} {st0 rest : List Value}
theorem vx_keep {st₀ t T' : State} {L : List Loc} (h0 : st₀.heap = H) (e1 : T'.heap = t.heap) (hS : va_S A0 H0 H locs) (hA : ∀ q, q < H.size → A1 q → A0 q) (hf : ∀ q, free q → A0 q) (hL : ∀ q ∈ L, free q.base) (hF : va_F A1 st₀ t) :
    H.size ≤ T'.heap.size ∧ (∀ q : Nat, q < H.size → ¬ A1 q → T'.heap[q]? = H[q]?) ∧ va_S A0 H0 T'.heap (locs ++ L) := by
  obtain ⟨hz, hk⟩ := hF
  rw [h0] at hz hk
  exact ⟨by rw [e1]; exact hz, fun q h1 h2 => by rw [e1]; exact hk q h1 h2,
    ⟨Nat.le_trans hS.1 (by rw [e1]; exact hz), fun q h1 h2 => by rw [e1, hk q (Nat.lt_of_lt_of_le h1 hS.1) (fun z => h2 (hA q (Nat.lt_of_lt_of_le h1 hS.1) z))]; exact hS.2.1 q h1 h2, fun q hq => by
      rcases List.mem_append.mp hq with h | h
      · exact hS.2.2 q h
      · exact hf _ (hL q h)⟩⟩
theorem vx_calli {S SX : Type} {post : Int32 → S → Prop} {px : SX → Prop} {B : S → State → Prop} {BX : String → SX → State → Prop} {AX : Nat → Prop} (hr : vx_Run p l e R s m args below meth c H locs cells slots mc ms (F0 m pc ls st0) rest (va_Qi post B A1 a) (vx_X px BX AX) free) (hS : va_S A0 H0 H locs) (hA : ∀ q, q < H.size → A1 q → A0 q) (hf : ∀ q, free q → A0 q) (hAX : ∀ q, q < H.size → AX q → A0 q)
    (kx : ∀ (E : String) (ce : Cell) (q9 : Addr) (u : SX) (t : State) (H1 : Heap) (locs1 : List Loc), t.heap = H1 → s.vm.Alike t.vm → px u → BX E u t → H.size ≤ H1.size → (∀ q : Nat, q < H.size → ¬ AX q → H1[q]? = H[q]?) → va_S A0 H0 H1 locs1 → H1[q9]? = some ce → ce.vm = .none → s.vm.findClass E = some ce.cls → vx_W p l e R s m args below meth c H1 locs1 (cells + mc) (slots + ms) Q (F0 m pc ls rest) q9)
    (kk : ∀ (r : Int32) (u : S) (t : State) (H1 : Heap) (locs1 : List Loc), t.heap = H1 → s.vm.Alike t.vm → post r u → B u t → H.size ≤ H1.size → (∀ q : Nat, q < H.size → ¬ A1 q → H1[q]? = H[q]?) → va_S A0 H0 H1 locs1 → W p l e R s m args below meth c H1 locs1 (cells + mc) (slots + ms) Q (F0 m (pc + 3) ls (.int r :: rest))) : W p l e R s m args below meth c H locs cells slots Q (F0 m pc ls st0) := by
  intro T hT X
  rcases hr T hT X with ⟨v, st₀, t, T', L, h0, X', hL, e1, e2, ⟨⟨r, u, hv, hp, hb⟩, hF⟩, st⟩ | ⟨q, st₀, t, T', L, E, ce, h0, X', hL, e1, e2, ⟨u, hp, hb, hF⟩, hce, hcv, hcl, st⟩
  · cases hv
    obtain ⟨k1, k2, k3⟩ := vx_keep h0 e1 hS hA hf hL hF
    obtain ⟨t2, a1, b1⟩ := kk r u t T'.heap (locs ++ L) e1.symm (by rw [← e2]; exact X'.warmed.alike) hp hb k1 k2 k3 T' rfl X'
    exact ⟨t2, st t2 a1, b1⟩
  · obtain ⟨k1, k2, k3⟩ := vx_keep h0 e1 hS hAX hf hL hF
    obtain ⟨t2, a1, b1⟩ := kx E ce q u t T'.heap (locs ++ L) e1.symm (by rw [← e2]; exact X'.warmed.alike) hp hb k1 k2 k3 (by rw [e1]; exact hce) hcv hcl T' rfl X'
    exact ⟨t2, st.trans a1, b1⟩
theorem vx_calll {S SX : Type} {post : Int64 → S → Prop} {px : SX → Prop} {B : S → State → Prop} {BX : String → SX → State → Prop} {AX : Nat → Prop} (hr : vx_Run p l e R s m args below meth c H locs cells slots mc ms (F0 m pc ls st0) rest (va_Ql post B A1 a) (vx_X px BX AX) free) (hS : va_S A0 H0 H locs) (hA : ∀ q, q < H.size → A1 q → A0 q) (hf : ∀ q, free q → A0 q) (hAX : ∀ q, q < H.size → AX q → A0 q)
    (kx : ∀ (E : String) (ce : Cell) (q9 : Addr) (u : SX) (t : State) (H1 : Heap) (locs1 : List Loc), t.heap = H1 → s.vm.Alike t.vm → px u → BX E u t → H.size ≤ H1.size → (∀ q : Nat, q < H.size → ¬ AX q → H1[q]? = H[q]?) → va_S A0 H0 H1 locs1 → H1[q9]? = some ce → ce.vm = .none → s.vm.findClass E = some ce.cls → vx_W p l e R s m args below meth c H1 locs1 (cells + mc) (slots + ms) Q (F0 m pc ls rest) q9)
    (kk : ∀ (r : Int64) (u : S) (t : State) (H1 : Heap) (locs1 : List Loc), t.heap = H1 → s.vm.Alike t.vm → post r u → B u t → H.size ≤ H1.size → (∀ q : Nat, q < H.size → ¬ A1 q → H1[q]? = H[q]?) → va_S A0 H0 H1 locs1 → W p l e R s m args below meth c H1 locs1 (cells + mc) (slots + ms) Q (F0 m (pc + 3) ls (.long r :: rest))) : W p l e R s m args below meth c H locs cells slots Q (F0 m pc ls st0) := by
  intro T hT X
  rcases hr T hT X with ⟨v, st₀, t, T', L, h0, X', hL, e1, e2, ⟨⟨r, u, hv, hp, hb⟩, hF⟩, st⟩ | ⟨q, st₀, t, T', L, E, ce, h0, X', hL, e1, e2, ⟨u, hp, hb, hF⟩, hce, hcv, hcl, st⟩
  · cases hv
    obtain ⟨k1, k2, k3⟩ := vx_keep h0 e1 hS hA hf hL hF
    obtain ⟨t2, a1, b1⟩ := kk r u t T'.heap (locs ++ L) e1.symm (by rw [← e2]; exact X'.warmed.alike) hp hb k1 k2 k3 T' rfl X'
    exact ⟨t2, st t2 a1, b1⟩
  · obtain ⟨k1, k2, k3⟩ := vx_keep h0 e1 hS hAX hf hL hF
    obtain ⟨t2, a1, b1⟩ := kx E ce q u t T'.heap (locs ++ L) e1.symm (by rw [← e2]; exact X'.warmed.alike) hp hb k1 k2 k3 (by rw [e1]; exact hce) hcv hcl T' rfl X'
    exact ⟨t2, st.trans a1, b1⟩
theorem vx_callf {S SX : Type} {post : UInt32 → S → Prop} {px : SX → Prop} {B : S → State → Prop} {BX : String → SX → State → Prop} {AX : Nat → Prop} (hr : vx_Run p l e R s m args below meth c H locs cells slots mc ms (F0 m pc ls st0) rest (va_Qf post B A1 a) (vx_X px BX AX) free) (hS : va_S A0 H0 H locs) (hA : ∀ q, q < H.size → A1 q → A0 q) (hf : ∀ q, free q → A0 q) (hAX : ∀ q, q < H.size → AX q → A0 q)
    (kx : ∀ (E : String) (ce : Cell) (q9 : Addr) (u : SX) (t : State) (H1 : Heap) (locs1 : List Loc), t.heap = H1 → s.vm.Alike t.vm → px u → BX E u t → H.size ≤ H1.size → (∀ q : Nat, q < H.size → ¬ AX q → H1[q]? = H[q]?) → va_S A0 H0 H1 locs1 → H1[q9]? = some ce → ce.vm = .none → s.vm.findClass E = some ce.cls → vx_W p l e R s m args below meth c H1 locs1 (cells + mc) (slots + ms) Q (F0 m pc ls rest) q9)
    (kk : ∀ (r : UInt32) (u : S) (t : State) (H1 : Heap) (locs1 : List Loc), t.heap = H1 → s.vm.Alike t.vm → post r u → B u t → H.size ≤ H1.size → (∀ q : Nat, q < H.size → ¬ A1 q → H1[q]? = H[q]?) → va_S A0 H0 H1 locs1 → W p l e R s m args below meth c H1 locs1 (cells + mc) (slots + ms) Q (F0 m (pc + 3) ls (.float r :: rest))) : W p l e R s m args below meth c H locs cells slots Q (F0 m pc ls st0) := by
  intro T hT X
  rcases hr T hT X with ⟨v, st₀, t, T', L, h0, X', hL, e1, e2, ⟨⟨r, u, hv, hp, hb⟩, hF⟩, st⟩ | ⟨q, st₀, t, T', L, E, ce, h0, X', hL, e1, e2, ⟨u, hp, hb, hF⟩, hce, hcv, hcl, st⟩
  · cases hv
    obtain ⟨k1, k2, k3⟩ := vx_keep h0 e1 hS hA hf hL hF
    obtain ⟨t2, a1, b1⟩ := kk r u t T'.heap (locs ++ L) e1.symm (by rw [← e2]; exact X'.warmed.alike) hp hb k1 k2 k3 T' rfl X'
    exact ⟨t2, st t2 a1, b1⟩
  · obtain ⟨k1, k2, k3⟩ := vx_keep h0 e1 hS hAX hf hL hF
    obtain ⟨t2, a1, b1⟩ := kx E ce q u t T'.heap (locs ++ L) e1.symm (by rw [← e2]; exact X'.warmed.alike) hp hb k1 k2 k3 (by rw [e1]; exact hce) hcv hcl T' rfl X'
    exact ⟨t2, st.trans a1, b1⟩
theorem vx_calld {S SX : Type} {post : UInt64 → S → Prop} {px : SX → Prop} {B : S → State → Prop} {BX : String → SX → State → Prop} {AX : Nat → Prop} (hr : vx_Run p l e R s m args below meth c H locs cells slots mc ms (F0 m pc ls st0) rest (va_Qd post B A1 a) (vx_X px BX AX) free) (hS : va_S A0 H0 H locs) (hA : ∀ q, q < H.size → A1 q → A0 q) (hf : ∀ q, free q → A0 q) (hAX : ∀ q, q < H.size → AX q → A0 q)
    (kx : ∀ (E : String) (ce : Cell) (q9 : Addr) (u : SX) (t : State) (H1 : Heap) (locs1 : List Loc), t.heap = H1 → s.vm.Alike t.vm → px u → BX E u t → H.size ≤ H1.size → (∀ q : Nat, q < H.size → ¬ AX q → H1[q]? = H[q]?) → va_S A0 H0 H1 locs1 → H1[q9]? = some ce → ce.vm = .none → s.vm.findClass E = some ce.cls → vx_W p l e R s m args below meth c H1 locs1 (cells + mc) (slots + ms) Q (F0 m pc ls rest) q9)
    (kk : ∀ (r : UInt64) (u : S) (t : State) (H1 : Heap) (locs1 : List Loc), t.heap = H1 → s.vm.Alike t.vm → post r u → B u t → H.size ≤ H1.size → (∀ q : Nat, q < H.size → ¬ A1 q → H1[q]? = H[q]?) → va_S A0 H0 H1 locs1 → W p l e R s m args below meth c H1 locs1 (cells + mc) (slots + ms) Q (F0 m (pc + 3) ls (.double r :: rest))) : W p l e R s m args below meth c H locs cells slots Q (F0 m pc ls st0) := by
  intro T hT X
  rcases hr T hT X with ⟨v, st₀, t, T', L, h0, X', hL, e1, e2, ⟨⟨r, u, hv, hp, hb⟩, hF⟩, st⟩ | ⟨q, st₀, t, T', L, E, ce, h0, X', hL, e1, e2, ⟨u, hp, hb, hF⟩, hce, hcv, hcl, st⟩
  · cases hv
    obtain ⟨k1, k2, k3⟩ := vx_keep h0 e1 hS hA hf hL hF
    obtain ⟨t2, a1, b1⟩ := kk r u t T'.heap (locs ++ L) e1.symm (by rw [← e2]; exact X'.warmed.alike) hp hb k1 k2 k3 T' rfl X'
    exact ⟨t2, st t2 a1, b1⟩
  · obtain ⟨k1, k2, k3⟩ := vx_keep h0 e1 hS hAX hf hL hF
    obtain ⟨t2, a1, b1⟩ := kx E ce q u t T'.heap (locs ++ L) e1.symm (by rw [← e2]; exact X'.warmed.alike) hp hb k1 k2 k3 (by rw [e1]; exact hce) hcv hcl T' rfl X'
    exact ⟨t2, st.trans a1, b1⟩
theorem vx_callv {S SX : Type} {post : S → Prop} {px : SX → Prop} {B : S → State → Prop} {BX : String → SX → State → Prop} {AX : Nat → Prop} (hr : vx_Run p l e R s m args below meth c H locs cells slots mc ms (F0 m pc ls st0) rest (va_Qv post B A1 a) (vx_X px BX AX) free) (hS : va_S A0 H0 H locs) (hA : ∀ q, q < H.size → A1 q → A0 q) (hf : ∀ q, free q → A0 q) (hAX : ∀ q, q < H.size → AX q → A0 q)
    (kx : ∀ (E : String) (ce : Cell) (q9 : Addr) (u : SX) (t : State) (H1 : Heap) (locs1 : List Loc), t.heap = H1 → s.vm.Alike t.vm → px u → BX E u t → H.size ≤ H1.size → (∀ q : Nat, q < H.size → ¬ AX q → H1[q]? = H[q]?) → va_S A0 H0 H1 locs1 → H1[q9]? = some ce → ce.vm = .none → s.vm.findClass E = some ce.cls → vx_W p l e R s m args below meth c H1 locs1 (cells + mc) (slots + ms) Q (F0 m pc ls rest) q9)
    (kk : ∀ (u : S) (t : State) (H1 : Heap) (locs1 : List Loc), t.heap = H1 → s.vm.Alike t.vm → post u → B u t → H.size ≤ H1.size → (∀ q : Nat, q < H.size → ¬ A1 q → H1[q]? = H[q]?) → va_S A0 H0 H1 locs1 → W p l e R s m args below meth c H1 locs1 (cells + mc) (slots + ms) Q (F0 m (pc + 3) ls (rest))) : W p l e R s m args below meth c H locs cells slots Q (F0 m pc ls st0) := by
  intro T hT X
  rcases hr T hT X with ⟨v, st₀, t, T', L, h0, X', hL, e1, e2, ⟨⟨u, hv, hp, hb⟩, hF⟩, st⟩ | ⟨q, st₀, t, T', L, E, ce, h0, X', hL, e1, e2, ⟨u, hp, hb, hF⟩, hce, hcv, hcl, st⟩
  · cases hv
    obtain ⟨k1, k2, k3⟩ := vx_keep h0 e1 hS hA hf hL hF
    obtain ⟨t2, a1, b1⟩ := kk u t T'.heap (locs ++ L) e1.symm (by rw [← e2]; exact X'.warmed.alike) hp hb k1 k2 k3 T' rfl X'
    exact ⟨t2, st t2 a1, b1⟩
  · obtain ⟨k1, k2, k3⟩ := vx_keep h0 e1 hS hAX hf hL hF
    obtain ⟨t2, a1, b1⟩ := kx E ce q u t T'.heap (locs ++ L) e1.symm (by rw [← e2]; exact X'.warmed.alike) hp hb k1 k2 k3 (by rw [e1]; exact hce) hcv hcl T' rfl X'
    exact ⟨t2, st.trans a1, b1⟩
/-- caught by the row x of this method's table; the rows ahead don't take it -/
theorem vx_catch {own name : String} {E : String} {ce : Cell} {q : Addr} (hown : s.vm.findClass own = some m.cls) (pre : List ExceptionTableEntry) (x : ExceptionTableEntry) (suf : List ExceptionTableEntry) (hsplit : c.exceptionTable.toList = pre ++ x :: suf)
    (hpass : ∀ z ∈ pre, covers z pc = false ∨ (z.catchType ≠ 0 ∧ ∃ nm : String, (Cond.classLink own z.catchType nm).before args s = true ∧ va_Nc E nm s)) (hx : covers x pc = true) (h0 : x.catchType ≠ 0)
    (hlink : (Cond.classLink own x.catchType name).before args s = true) (hcast : (Cond.castable E name).before args s = true) (hcell : H[q]? = some ce) (hv : ce.vm = .none) (hcl : s.vm.findClass E = some ce.cls)
    (kk : W p l e R s m args below meth c H locs cells slots Q (F0 m x.handlerPc ls [.ref q])) : vx_W p l e R s m args below meth c H locs cells slots Q (F0 m pc ls rest) q := by
  intro T hT X
  have hpl : e.platform.magicAccessors = ({} : Platform).magicAccessors := by rw [X.admits.platform]
  obtain ⟨c3, c4, hc3, hc4, hasg⟩ := Cond.castable_spec hcast
  cases Option.some.inj (hc3.symm.trans hcl)
  obtain ⟨c5, hc5, hcl5⟩ := Cond.classLink_spec hown hlink e.platform hpl
  cases Option.some.inj (hc4.symm.trans hc5)
  obtain ⟨vm', X', st⟩ := X.thenCaughtThrough q (g := F0 m pc ls rest) rfl (Steps.refl _) (by rw [hT]; exact hcell) (by rw [hv]; rfl) (by obtain ⟨k9, h9, -⟩ := Vm.findClass_spec hcl; exact ⟨k9, h9⟩) pre x suf hsplit
    (fun z hz => by
      rcases hpass z hz with h | ⟨hz0, nm, hl1, hn1⟩
      · exact Or.inl h
      · obtain ⟨c6, hc6, hcl6⟩ := Cond.classLink_spec hown hl1 e.platform hpl
        obtain ⟨a8, b8, h1, h2, h3⟩ := hn1
        cases Option.some.inj (h1.symm.trans hcl)
        cases Option.some.inj (h2.symm.trans hc6)
        exact Or.inr ⟨hz0, _, hcl6, h3⟩) hx (Or.inr ⟨h0, c4, hcl5, hasg⟩)
  obtain ⟨t, a1, b1⟩ := kk (T.setVm vm') hT X'
  exact ⟨t, st.trans a1, b1⟩
end Rows
section Ends
variable {p : Program} {l : Launch} {e : Env} {R : Room} {s : State} {m : MethodId} {args : Array Value} {below : List Frame} {meth : Method} {c : Code} {H : Heap} {locs : List Loc} {cells slots : Nat} {Q : State → Prop}
variable {mc ms : Nat} {free : Addr → Prop} {A0 A1 : Nat → Prop} {H0 : Heap} {a : Array Value} {ls : Array Slot} {st0 rest : List Value}
variable {Qc : Array Value → State → Outcome → State → Prop} {XC : String → State → State → Prop}
/-- what a body that may throw owes at its end -/
def vx_MQ (below : List Frame) (Qc : Array Value → State → Outcome → State → Prop) (XC : String → State → State → Prop) (a : Array Value) (s : State) (mc ms : Nat) (free : Addr → Prop) : State → Prop := fun t =>
  ∃ o, t.status = .running ∧ Ended t below o ∧ vx_Q Qc XC mc ms free a s o t
theorem vx_ret {g : JFrame} {mc ms : Nat} (k : W p l e R s m args below meth c H locs cells slots (MQ below Qc args s mc ms free) g) : W p l e R s m args below meth c H locs cells slots (vx_MQ below Qc XC args s mc ms free) g := by
  intro T hT X
  obtain ⟨t, a1, o, b1, b2, b3, b4⟩ := k T hT X
  exact ⟨t, a1, o, b1, b2, Or.inl ⟨b3, b4⟩⟩
/-- not caught here: it goes on to the caller -/
theorem vx_widen {g : JFrame} {q : Addr} {k n : Nat} (h1 : cells ≤ k) (h2 : slots ≤ n) (kk : vx_W p l e R s m args below meth c H locs k n Q g q) : vx_W p l e R s m args below meth c H locs cells slots Q g q := fun T hT X => kk T hT (stand_widen X h1 h2)
theorem vx_out {pc : Nat} {E : String} {ce : Cell} {q : Addr} {mc ms : Nat} (hout : ∀ x ∈ c.exceptionTable.toList, covers x pc = false) (hlocks : meth.locks = false) (hcell : H[q]? = some ce) (hv : ce.vm = .none) (hcl : s.vm.findClass E = some ce.cls)
    (hx : ∀ t : State, t.heap = H → s.vm.Alike t.vm → XC E s t) (hf : ∀ z ∈ locs, free z.base) (hc : cells ≤ mc) (hs : slots ≤ ms) :
    vx_W p l e R s m args below meth c H locs cells slots (vx_MQ below Qc XC args s mc ms free) (F0 m pc ls rest) q := by
  intro T hT X
  obtain ⟨st1, hrun, hend, hW, hsm⟩ := X.leaveThrown q (g := F0 m pc ls rest) rfl rfl rfl hout hlocks
  have hcell9 : (T.setFrames (.throwing q :: below)).heap[q]? = some ce := by
    show T.heap[q]? = some ce
    rw [hT]; exact hcell
  exact ⟨_, st1, .threw q, hrun, hend, Or.inr ⟨q, rfl, E, ce, locs, hx _ hT hW.alike, hcell9, hv, hcl, hW, hsm.mono hc hs, hf⟩⟩
theorem vx_frame {U : State} {k n : Nat} (h : s.sameButNew ({ U with vm := s.vm } : State) locs k n) : s.heap.size ≤ U.heap.size ∧ ∀ q : Nat, q < s.heap.size → (∀ z ∈ locs, z.base ≠ q) → U.heap[q]? = s.heap[q]? := by
  obtain ⟨-, h2, -, -, -, h6⟩ := h
  refine ⟨h2, fun q hq hz => ?_⟩
  obtain ⟨c9, e1, e2, e3, e4⟩ := h6 q _ (Array.getElem?_eq_getElem hq)
  have hs : c9.slots = (s.heap[q]).slots := Array.ext_getElem? fun i => e4 i fun hm => hz _ hm rfl
  have h9 : c9 = s.heap[q] := by
    rw [hs] at e2
    exact e2
  have e5 : U.heap[q]? = some c9 := e1
  rw [e5, h9, Array.getElem?_eq_getElem hq]
/-- the words of a throw but the four that speak of the heap -/
def vx_no (w : Cond) : Bool := decide (w ≠ .isRef (.static Bundle.tN "UNASSIGNED_STACK" Bundle.steD)) && decide (w ≠ .isRef (.static Bundle.tN "SUPPRESSED_SENTINEL" Bundle.listD)) && decide (w ≠ .laysStatic Bundle.tN "UNASSIGNED_STACK" Bundle.steD) && decide (w ≠ .laysStatic Bundle.tN "SUPPRESSED_SENTINEL" Bundle.listD)
def vx_at0 (own : String) (ic : Nat) (X : String) (names : List String) : List Cond := (Bundle.ownAtoms0 own ic X names).filter vx_no
def vx_atS (own : String) (ic : Nat) (X : String) (names : List String) : List Cond := (Bundle.ownAtoms own ic X names).filter vx_no
/-- a word that the tables alone decide, or a good one -/
def vx_ot (w : Cond) : Bool := w.onTables || goodWord w
theorem vx_ot_at {args a' : Array Value} {s U : State} {w : Cond} (hW : s.WarmedH U.vm) (hvm : s.vm = U.vm) (hg : vx_ot w = true) (h : w.before args s = true) : w.before a' U = true := by
  simp only [vx_ot, Bool.or_eq_true] at hg
  rcases hg with hg | hg
  · exact va_tabs hg hvm h
  · exact word_at hW (good_of_word hg) h
/-- a list's words: the good ones out of the method's own list, the others by premises of their own -/
theorem vx_hat {args : Array Value} {s : State} {L B : List Cond} (h1 : ∀ w ∈ L.filter goodWord, w.before args s = true) (h2 : ∀ w ∈ L.filter (fun w => !goodWord w), w ∈ B) (h3 : ∀ w ∈ B, w.before args s = true) : ∀ w ∈ L, w.before args s = true := by
  intro w hw
  by_cases g : goodWord w = true
  · exact h1 w (List.mem_filter.mpr ⟨hw, g⟩)
  · refine h3 w (h2 w (List.mem_filter.mpr ⟨hw, ?_⟩))
    show (!goodWord w) = true
    cases hgw : goodWord w
    · rfl
    · exact absurd hgw g
theorem vx_c {args : Array Value} {s : State} {w : Cond} {B : List Cond} (h : w.before args s = true) (t : ∀ w ∈ B, w.before args s = true) : ∀ w' ∈ w :: B, w'.before args s = true := fun w' h' => (List.mem_cons.mp h').elim (fun e => by rw [e]; exact h) (t w')
theorem vx_n {args : Array Value} {s : State} : ∀ w ∈ ([] : List Cond), w.before args s = true := fun _ h => nomatch h
theorem vx_own {args : Array Value} {s : State} {L : List Cond} (h1 : ∀ w ∈ L.filter vx_no, w.before args s = true)
    (hU : (Cond.isRef (.static Bundle.tN "UNASSIGNED_STACK" Bundle.steD)).before args s = true) (hN : (Cond.isRef (.static Bundle.tN "SUPPRESSED_SENTINEL" Bundle.listD)).before args s = true)
    (lU : (Cond.laysStatic Bundle.tN "UNASSIGNED_STACK" Bundle.steD).before args s = true) (lN : (Cond.laysStatic Bundle.tN "SUPPRESSED_SENTINEL" Bundle.listD).before args s = true) : ∀ w ∈ L, w.before args s = true := by
  intro w hw
  by_cases e1 : w = .isRef (.static Bundle.tN "UNASSIGNED_STACK" Bundle.steD)
  · rw [e1]; exact hU
  · by_cases e2 : w = .isRef (.static Bundle.tN "SUPPRESSED_SENTINEL" Bundle.listD)
    · rw [e2]; exact hN
    · by_cases e3 : w = .laysStatic Bundle.tN "UNASSIGNED_STACK" Bundle.steD
      · rw [e3]; exact lU
      · by_cases e4 : w = .laysStatic Bundle.tN "SUPPRESSED_SENTINEL" Bundle.listD
        · rw [e4]; exact lN
        · exact h1 w (List.mem_filter.mpr ⟨hw, by unfold vx_no; rw [decide_eq_true e1, decide_eq_true e2, decide_eq_true e3, decide_eq_true e4]; rfl⟩)
/-- where a static field lies, its class's statics cell in H -/
def vx_L (C n d : String) (A : Nat → Prop) (U : State) (H : Heap) : Prop := ∃ (c : ClassId) (k : Class) (i : Nat) (f : Field) (a : Nat) (cell : Cell), U.vm.findClass C = some c ∧ U.fieldFound? C n d = some (c, k, i, f) ∧ f.isStatic = true ∧ k.statics = some a ∧ H[a]? = some cell ∧ cell.vm.isStatics = true ∧ cell.cls = c ∧ f.slot < cell.slots.size ∧ k.staticTypes[f.slot]? = some f.type ∧ ¬ A a
theorem vx_L.moved {C n d : String} {A : Nat → Prop} {u U : State} {H : Heap} (hvm : u.vm.Alike U.vm) (h : vx_L C n d A u H) : vx_L C n d A U H := by
  obtain ⟨c, k, i, f, a, cell, h1, h2, h3, h4, h5, h6, h7, h8, h9, h10⟩ := h
  obtain ⟨k', hi', he⟩ := State.fieldFound?_setVm hvm h2
  exact ⟨c, k', i, f, a, cell, by rw [hvm.findClass]; exact h1, hi', h3, by rw [he]; exact h4, h5, h6, h7, h8, by rw [he]; exact h9, h10⟩
theorem vx_L.kept {C n d : String} {A : Nat → Prop} {U : State} {H H1 : Heap} (h : vx_L C n d A U H) (hq : ∀ a : Nat, a < H.size → ¬ A a → H1[a]? = H[a]?) : vx_L C n d A U H1 := by
  obtain ⟨c, k, i, f, a, cell, h1, h2, h3, h4, h5, h6, h7, h8, h9, h10⟩ := h
  exact ⟨c, k, i, f, a, cell, h1, h2, h3, h4, by rw [hq a (Array.getElem?_eq_some_iff.mp h5).1 h10]; exact h5, h6, h7, h8, h9, h10⟩
theorem vx_L.narrow {C n d : String} {A B : Nat → Prop} {U : State} {H : Heap} (h : vx_L C n d A U H) (hAB : ∀ q, B q → A q) : vx_L C n d B U H := by
  obtain ⟨c, k, i, f, a, cell, h1, h2, h3, h4, h5, h6, h7, h8, h9, h10⟩ := h
  exact ⟨c, k, i, f, a, cell, h1, h2, h3, h4, h5, h6, h7, h8, h9, fun z => h10 (hAB _ z)⟩
theorem vx_L.word {C n d : String} {A : Nat → Prop} {s : State} {args : Array Value} (h : vx_L C n d A s s.heap) : (Cond.laysStatic C n d).before args s = true := by
  obtain ⟨c, k, i, f, a, cell, h1, h2, h3, h4, h5, h6, h7, h8, h9, -⟩ := h
  show (Cond.laysStatic C n d).holds args s none s [] = true
  exact Cond.laysStatic_of h1 h2 h3 h4 h5 h6 h7 h8 h9
/-- .. and what it holds: null or some reference -/
def vx_Zq (C n d : String) (A : Nat → Prop) (U : State) (H : Heap) : Prop := va_Zq C n d A U H ∧ vx_L C n d A U H
theorem vx_Zq.moved {C n d : String} {A : Nat → Prop} {u U : State} {H : Heap} (hvm : u.vm.Alike U.vm) (h : vx_Zq C n d A u H) : vx_Zq C n d A U H := ⟨va_Zq.moved hvm h.1, vx_L.moved hvm h.2⟩
theorem vx_Zq.kept {C n d : String} {A : Nat → Prop} {U : State} {H H1 : Heap} (h : vx_Zq C n d A U H) (hq : ∀ a : Nat, a < H.size → ¬ A a → H1[a]? = H[a]?) : vx_Zq C n d A U H1 := ⟨va_Zq.kept h.1 hq, vx_L.kept h.2 hq⟩
theorem vx_Zq.narrow {C n d : String} {A B : Nat → Prop} {U : State} {H : Heap} (h : vx_Zq C n d A U H) (hAB : ∀ q, B q → A q) : vx_Zq C n d B U H := ⟨va_Zq.narrow h.1 hAB, vx_L.narrow h.2 hAB⟩
theorem vx_Zqof {args : Array Value} {s : State} {C n d : String} {A : Nat → Prop} (hl : (Cond.laysStatic C n d).before args s = true) (hini : (Cond.initialized C).before args s = true) (h : (Cond.isRef (.static C n d)).before args s = true) (hA : ∀ a : Nat, a < s.heap.size → ¬ A a) : vx_Zq C n d A s s.heap := by
  refine ⟨va_Zqof hl hini h hA, ?_⟩
  obtain ⟨c, k, i, f, a, cell, h1, h2, h3, h4, h5, h6, h7, h8, h9⟩ := Cond.laysStatic_spec hl
  exact ⟨c, k, i, f, a, cell, h1, h2, h3, h4, h5, h6, h7, h8, h9, hA a (Array.getElem?_eq_some_iff.mp h5).1⟩
theorem vx_isRef {C n d : String} {v : Value} {A : Nat → Prop} {s : State} {args : Array Value} (h : va_Z C n d v A s s.heap) (hv : v.isRef = true) : (Cond.isRef (.static C n d)).before args s = true := by
  obtain ⟨cf, kf, fi, f, a, cell, h1, h2, h3, h4, h5, h6, h7, -⟩ := h
  have he : (Term.static C n d).eval args s none [] s = some v := by
    simp [Term.eval, State.fieldNamed?, h1, h2, h4, h5, h6, h7]
  simp only [Cond.before, Cond.holds, Cond.value, he]
  cases v <;> simp_all [Value.isRef]
theorem vx_isRefq {C n d : String} {A : Nat → Prop} {s : State} {args : Array Value} (h : va_Zq C n d A s s.heap) : (Cond.isRef (.static C n d)).before args s = true := by
  rcases h with h | ⟨t, h⟩
  · exact vx_isRef h rfl
  · exact vx_isRef h rfl
/-- the same frame, seen from here: as if the method were called anew in this heap -/
theorem vx_rebase {T : State} (X : Stand p l e R s m args below meth c T locs cells slots) {R' : Room} (hf : R'.frames ≤ R.frames) (hl : R'.locals ≤ R.locals) (hc : cells + R'.cells ≤ R.cells) (hs : slots + R'.slots ≤ R.slots) :
    Stand p l e R' ((T.setVm s.vm).setFrames (.invoking m args :: below)) m args below meth c T [] 0 0 := by
  have htop : (T.setVm s.vm).topJava?.isSome := X.here.top
  have hF : ((T.setVm s.vm).setFrames (.invoking m args :: below)).frames = .invoking m args :: below := State.frames_setFrames _ (State.cur_lt_of_top htop)
  obtain ⟨g₀, hg0⟩ := Option.isSome_iff_exists.mp htop
  obtain ⟨r, hr⟩ := State.topJava?_eq_some.mp hg0
  have hl9 : e.platform.stackLimits (T.setVm s.vm).me = e.platform.stackLimits s.me := X.limits
  have hb9 : (T.setVm s.vm).me.stackBytes = s.me.stackBytes := X.bytes
  refine ⟨X.admits, X.cas, X.clock, hF, ?_, X.hears, X.method, X.code, X.here, X.tail, X.warmed, ?_, ?_, ?_⟩
  · have h := X.room
    have hU : ((T.setVm s.vm).setFrames (.invoking m args :: below)).localsInUse = s.localsInUse := by
      rw [State.localsInUse_invoking hF (meth := meth) (c := c) X.method X.code, State.localsInUse_invoking X.frames X.method X.code]
    simp only [State.hasRoom, Bool.and_eq_true, decide_eq_true_eq] at h ⊢
    obtain ⟨⟨⟨⟨h1, h2, h3, h4, h5, h6⟩, h7⟩, h8⟩, h9⟩ := h
    rw [X.frames, List.length_cons] at h2 h3
    have q1 := X.heapSize
    have q2 := X.used
    simp only [hF, hU, List.length_cons, State.stackLimits_setFrames, State.stackBytes_setFrames, hl9, hb9]
    refine ⟨⟨⟨⟨by omega, by omega, by omega, by omega, by omega, h6⟩, ?_⟩, ?_⟩, X.book⟩
    · show T.heap.size + R'.cells ≤ e.platform.maxCells
      omega
    · show T.slotsUsed + R'.slots ≤ e.platform.maxSlots
      omega
  · rw [State.stackLimits_setFrames]; rfl
  · rw [State.stackBytes_setFrames]; rfl
  · refine ⟨?_, Nat.le_refl _, Nat.le_refl _, ?_, ?_, fun a c9 h9 => ⟨c9, h9, rfl, rfl, fun _ _ => rfl⟩⟩
    · obtain ⟨t, ht, -⟩ := State.frames_cons hr
      show T.setVm s.vm = { ((T.setVm s.vm).setFrames (.invoking m args :: below)).setFrames (T.setVm s.vm).frames with heap := T.heap, slotsUsed := T.slotsUsed }
      rw [State.setFrames_setFrames, State.setFrames_self ht]
      rfl
    · show T.slotsUsed = T.slotsUsed + ((T.heap.toList.drop T.heap.size).map (·.slots.size)).sum
      rw [List.drop_eq_nil_of_le (Nat.le_of_eq Array.length_toList)]
      rfl
    · show ((T.heap.toList.drop T.heap.size).map (·.slots.size)).sum ≤ 0
      rw [List.drop_eq_nil_of_le (Nat.le_of_eq Array.length_toList)]
      exact Nat.le_refl _
/-- 'throw new E()': new; dup; invokespecial; athrow -/
theorem vx_throw0 {cc : ByteArray} {pc : Nat} (hexec : p.tables.exec = Jvm.exec) (hb : c.code = cc) (hl : l.stackTraces = false) {own cls : String} {names : List String} {ik ic mc ms : Nat} {A : Nat → Prop}
    (hown : s.vm.findClass own = some m.cls) (hcls : Bundle.fit cls = true) (hnames : ∀ n ∈ names, Bundle.fit n = true)
    (hk : (Cond.classLink own ik cls).before args s = true) (hini : (Cond.initialized cls).before args s = true) (hat : ∀ w ∈ vx_at0 own ic cls names, w.before args s = true)
    (hgood : ∀ w ∈ Cond.classLink own ik cls :: Cond.initialized cls :: vx_at0 own ic cls names, vx_ot w = true)
    (hU : vx_Zq Bundle.tN "UNASSIGNED_STACK" Bundle.steD A s s.heap) (hN : vx_Zq Bundle.tN "SUPPRESSED_SENTINEL" Bundle.listD A s s.heap) (hS : va_S A s.heap H locs) (hsize : ls.size = c.maxLocals)
    (d0 : decode cc pc = .ok (.new ik, 3)) (d3 : decode cc (pc + 3) = .ok (.dup, 1)) (d4 : decode cc (pc + 4) = .ok (.invokespecial ic, 3)) (d7 : decode cc (pc + 7) = .ok (.athrow, 1))
    (hout : ∀ x ∈ c.exceptionTable.toList, covers x (pc + 7) = false)
    (hRframes : names.length + 3 < R.frames) (hRlocals : (rest.map fun v => v.category).sum + (13 * (names.length + 1) + 42) ≤ R.locals) (hRcells : cells + 1 ≤ R.cells) (hRslots : slots + 6 ≤ R.slots) (hlocks : meth.locks = false)
    (hx : ∀ t : State, s.vm.Alike t.vm → H.size ≤ t.heap.size → (∀ q : Nat, q < H.size → t.heap[q]? = H[q]?) → XC cls s t)
    (hf : ∀ z ∈ locs, free z.base) (hc : cells + 1 ≤ mc) (hs : slots + 6 ≤ ms) :
    W p l e R s m args below meth c H locs cells slots (vx_MQ below Qc XC args s mc ms free) (F0 m pc ls rest) := by
  intro T hT X
  have htr : e.platform.stackTraces = false := (show e.platform.stackTraces = l.stackTraces by rw [X.admits.platform]).trans hl
  have Y := vx_rebase X (R' := { frames := R.frames, locals := R.locals, cells := 1, slots := 6 }) (Nat.le_refl _) (Nat.le_refl _) hRcells hRslots
  obtain ⟨s', hA⟩ : ∃ z, z = (T.setVm s.vm).setFrames (.invoking m args :: below) := ⟨_, rfl⟩
  rw [← hA] at Y
  have hvm : s'.vm = s.vm := by rw [hA]; rfl
  have hhp : s'.heap = H := by rw [hA]; exact hT
  have hW0 : s.WarmedH s'.vm := by rw [hvm]; exact State.WarmedH.refl s
  have hat' : ∀ w ∈ vx_at0 own ic cls names, w.before args s' = true := fun w hw => vx_ot_at hW0 hvm.symm (hgood w (List.mem_cons_of_mem _ (List.mem_cons_of_mem _ hw))) (hat w hw)
  have hk' : (Cond.classLink own ik cls).before args s' = true := vx_ot_at hW0 hvm.symm (hgood _ List.mem_cons_self) hk
  have hini' : (Cond.initialized cls).before args s' = true := vx_ot_at hW0 hvm.symm (hgood _ (List.mem_cons_of_mem _ List.mem_cons_self)) hini
  have hU' : vx_Zq Bundle.tN "UNASSIGNED_STACK" Bundle.steD A s' s'.heap := by rw [hhp]; exact vx_Zq.moved hW0.alike (hU.kept hS.2.1)
  have hN' : vx_Zq Bundle.tN "SUPPRESSED_SENTINEL" Bundle.listD A s' s'.heap := by rw [hhp]; exact vx_Zq.moved hW0.alike (hN.kept hS.2.1)
  have h : ∀ w ∈ Bundle.ownAtoms0 own ic cls names, w.before args s' = true := vx_own hat' (vx_isRefq hU'.1) (vx_isRefq hN'.1) hU'.2.word hN'.2.word
  have hown' : s'.vm.findClass own = some m.cls := by rw [hvm]; exact hown
  have hins : (Cond.instantiable cls 6).before args s' = true := h _ (by simp [Bundle.ownAtoms0])
  obtain ⟨vm₁, cX, kX, hfX, hkX, -, -, X₁, st1⟩ := Y.newCold hexec (own := own) (C := cls) (index := ik) (n := 6) hown' hk' hins hini'
    (g := F0 m pc ls rest) rfl (by rw [hb]; exact d0) (Nat.le_refl _) (Nat.le_refl _)
  generalize hT1 : (T.setVm vm₁).pushCell { cls := cX, slots := kX.instanceTypes.map defaultValue, vm := .none } = T1 at X₁ st1
  have hcat : (Value.ref T.heap.size).category = 1 := rfl
  have hcellA : T1.heap[T.heap.size]? = some (freshCell cX kX) := by rw [← hT1]; exact State.heap_pushCell_size _ _
  have d3' : decode c.code (pc + 3) = .ok (.dup, 1) := by rw [hb]; exact d3
  obtain ⟨U, hsteps, hrun, hend, hW, hsame, ce, hce, hO⟩ := X₁.ctorThrow0 hexec htr (own := own) (cls := cls) (names := names) (ic := ic) hown' hcls hnames h (fun x hx => nomatch hx) hfX hkX hcellA (by rw [hhp, hT]; exact Nat.le_refl _)
    (g := { method := m, pc := pc + 4, locals := ls, stack := .ref T.heap.size :: .ref T.heap.size :: rest, locked := none }) rfl hsize rfl rfl (rest := rest) rfl
    (by rw [hb]; exact d4) (by rw [hb]; exact d7) hout hRframes (by simp only [List.map_cons, List.sum_cons, hcat]; omega) hlocks
  obtain ⟨f1, f2⟩ := vx_frame hsame
  rw [hhp] at f1 f2
  have hWs : s.WarmedH U.vm := State.WarmedH.trans hW0 hW
  have hcl : s.vm.findClass cls = some ce.cls := by
    have h9 := hO.cls
    rw [hvm] at h9
    exact h9
  have hall : s.sameButNew ({ U with vm := s.vm } : State) locs mc ms := by
    subst hA
    obtain ⟨e1, e2⟩ := hsame
    rw [State.setFrames_setFrames] at e1
    have h2 : (T.setVm s.vm).sameButNew ({ U with vm := s.vm } : State) [] (0 + 1) (0 + 6) := ⟨e1, e2⟩
    have h3 := X.same.trans h2
    rw [List.append_nil] at h3
    exact h3.mono hc hs
  refine ⟨U, ?_, .threw T.heap.size, hrun, hend, Or.inr ⟨T.heap.size, rfl, cls, ce, locs, hx U hWs.alike f1 (fun q hq => f2 q hq (fun z hz => nomatch hz)), hce, hO.vm, hcl, hWs, hall, hf⟩⟩
  refine st1 _ ?_
  show Steps p.tables e below (T1.setTop { method := m, pc := pc + 3, locals := ls, stack := .ref T.heap.size :: rest, locked := none }) _
  jvm_step X₁.here [X₁.here.top, hexec, d3', Value.category]
  exact hsteps
/-- 'throw new E("text")': new; dup; ldc; invokespecial; athrow -/
theorem vx_throwS {cc : ByteArray} {pc : Nat} (hexec : p.tables.exec = Jvm.exec) (hb : c.code = cc) (hl : l.stackTraces = false) {own cls text : String} {names : List String} {ik is ic mc ms sa : Nat} {A : Nat → Prop}
    (hown : s.vm.findClass own = some m.cls) (hcls : Bundle.fit cls = true) (hnames : ∀ n ∈ names, Bundle.fit n = true)
    (hk : (Cond.classLink own ik cls).before args s = true) (hini : (Cond.initialized cls).before args s = true) (hstr : vk_R own is text sa s) (hat : ∀ w ∈ vx_atS own ic cls names, w.before args s = true)
    (hgood : ∀ w ∈ Cond.classLink own ik cls :: Cond.initialized cls :: vx_atS own ic cls names, vx_ot w = true)
    (hU : vx_Zq Bundle.tN "UNASSIGNED_STACK" Bundle.steD A s s.heap) (hN : vx_Zq Bundle.tN "SUPPRESSED_SENTINEL" Bundle.listD A s s.heap) (hS : va_S A s.heap H locs) (hsize : ls.size = c.maxLocals)
    (d0 : decode cc pc = .ok (.new ik, 3)) (d3 : decode cc (pc + 3) = .ok (.dup, 1)) (d4 : decode cc (pc + 4) = .ok (.ldc is, 2)) (d6 : decode cc (pc + 6) = .ok (.invokespecial ic, 3)) (d9 : decode cc (pc + 9) = .ok (.athrow, 1))
    (hout : ∀ x ∈ c.exceptionTable.toList, covers x (pc + 9) = false)
    (hRframes : names.length + 3 < R.frames) (hRlocals : (rest.map fun v => v.category).sum + (13 * (names.length + 1) + 43) ≤ R.locals) (hRcells : cells + 1 ≤ R.cells) (hRslots : slots + 6 ≤ R.slots) (hlocks : meth.locks = false)
    (hx : ∀ t : State, s.vm.Alike t.vm → H.size ≤ t.heap.size → (∀ q : Nat, q < H.size → t.heap[q]? = H[q]?) → XC cls s t)
    (hf : ∀ z ∈ locs, free z.base) (hc : cells + 1 ≤ mc) (hs : slots + 6 ≤ ms) :
    W p l e R s m args below meth c H locs cells slots (vx_MQ below Qc XC args s mc ms free) (F0 m pc ls rest) := by
  intro T hT X
  have htr : e.platform.stackTraces = false := (show e.platform.stackTraces = l.stackTraces by rw [X.admits.platform]).trans hl
  have Y := vx_rebase X (R' := { frames := R.frames, locals := R.locals, cells := 1, slots := 6 }) (Nat.le_refl _) (Nat.le_refl _) hRcells hRslots
  obtain ⟨s', hA⟩ : ∃ z, z = (T.setVm s.vm).setFrames (.invoking m args :: below) := ⟨_, rfl⟩
  rw [← hA] at Y
  have hvm : s'.vm = s.vm := by rw [hA]; rfl
  have hhp : s'.heap = H := by rw [hA]; exact hT
  have hW0 : s.WarmedH s'.vm := by rw [hvm]; exact State.WarmedH.refl s
  have hat' : ∀ w ∈ vx_atS own ic cls names, w.before args s' = true := fun w hw => vx_ot_at hW0 hvm.symm (hgood w (List.mem_cons_of_mem _ (List.mem_cons_of_mem _ hw))) (hat w hw)
  have hk' : (Cond.classLink own ik cls).before args s' = true := vx_ot_at hW0 hvm.symm (hgood _ List.mem_cons_self) hk
  have hini' : (Cond.initialized cls).before args s' = true := vx_ot_at hW0 hvm.symm (hgood _ (List.mem_cons_of_mem _ List.mem_cons_self)) hini
  have hU' : vx_Zq Bundle.tN "UNASSIGNED_STACK" Bundle.steD A s' s'.heap := by rw [hhp]; exact vx_Zq.moved hW0.alike (hU.kept hS.2.1)
  have hN' : vx_Zq Bundle.tN "SUPPRESSED_SENTINEL" Bundle.listD A s' s'.heap := by rw [hhp]; exact vx_Zq.moved hW0.alike (hN.kept hS.2.1)
  have h : ∀ w ∈ Bundle.ownAtoms own ic cls names, w.before args s' = true := vx_own hat' (vx_isRefq hU'.1) (vx_isRefq hN'.1) hU'.2.word hN'.2.word
  have hown' : s'.vm.findClass own = some m.cls := by rw [hvm]; exact hown
  have hins : (Cond.instantiable cls 6).before args s' = true := h _ (by simp [Bundle.ownAtoms])
  obtain ⟨vm₁, cX, kX, hfX, hkX, -, -, X₁, st1⟩ := Y.newCold hexec (own := own) (C := cls) (index := ik) (n := 6) hown' hk' hins hini'
    (g := F0 m pc ls rest) rfl (by rw [hb]; exact d0) (Nat.le_refl _) (Nat.le_refl _)
  generalize hT1 : (T.setVm vm₁).pushCell { cls := cX, slots := kX.instanceTypes.map defaultValue, vm := .none } = T1 at X₁ st1
  have hcat : (Value.ref T.heap.size).category = 1 := rfl
  have hcellA : T1.heap[T.heap.size]? = some (freshCell cX kX) := by rw [← hT1]; exact State.heap_pushCell_size _ _
  have d3' : decode c.code (pc + 3) = .ok (.dup, 1) := by rw [hb]; exact d3
  have d4' : decode c.code (pc + 4) = .ok (.ldc is, 2) := by rw [hb]; exact d4
  have hstr' : vk_R own is text sa s' := vk_R.warm hW0 hstr
  obtain ⟨U, hsteps, hrun, hend, hW, hsame, ce, hce, hO⟩ := X₁.ctorThrowS hexec htr (own := own) (cls := cls) (names := names) (ic := ic) hown' hcls hnames h (fun x hx => nomatch hx) hfX hkX hcellA (by rw [hhp, hT]; exact Nat.le_refl _) (msg := .ref sa) rfl
    (g := { method := m, pc := pc + 6, locals := ls, stack := .ref sa :: .ref T.heap.size :: .ref T.heap.size :: rest, locked := none }) rfl hsize rfl rfl (rest := rest) rfl
    (by rw [hb]; exact d6) (by rw [hb]; exact d9) hout hRframes (by simp only [List.map_cons, List.sum_cons, hcat]; omega) hlocks
  obtain ⟨f1, f2⟩ := vx_frame hsame
  rw [hhp] at f1 f2
  have hWs : s.WarmedH U.vm := State.WarmedH.trans hW0 hW
  have hcl : s.vm.findClass cls = some ce.cls := by
    have h9 := hO.cls
    rw [hvm] at h9
    exact h9
  have hall : s.sameButNew ({ U with vm := s.vm } : State) locs mc ms := by
    subst hA
    obtain ⟨e1, e2⟩ := hsame
    rw [State.setFrames_setFrames] at e1
    have h2 : (T.setVm s.vm).sameButNew ({ U with vm := s.vm } : State) [] (0 + 1) (0 + 6) := ⟨e1, e2⟩
    have h3 := X.same.trans h2
    rw [List.append_nil] at h3
    exact h3.mono hc hs
  refine ⟨U, ?_, .threw T.heap.size, hrun, hend, Or.inr ⟨T.heap.size, rfl, cls, ce, locs, hx U hWs.alike f1 (fun q hq => f2 q hq (fun z hz => nomatch hz)), hce, hO.vm, hcl, hWs, hall, hf⟩⟩
  refine st1 _ ?_
  show Steps p.tables e below (T1.setTop { method := m, pc := pc + 3, locals := ls, stack := .ref T.heap.size :: rest, locked := none }) _
  jvm_step X₁.here [X₁.here.top, hexec, d3', Value.category]
  exact X₁.ldcString hexec (own := own) (text := text) (index := is) (a := sa) hown' hstr'.1 hstr'.2
    (g := { method := m, pc := pc + 4, locals := ls, stack := .ref T.heap.size :: .ref T.heap.size :: rest, locked := none }) rfl d4' _ hsteps
/-- 'throw new E("text")', the text by a wide index -/
theorem vx_throwSW {cc : ByteArray} {pc : Nat} (hexec : p.tables.exec = Jvm.exec) (hb : c.code = cc) (hl : l.stackTraces = false) {own cls text : String} {names : List String} {ik is ic mc ms sa : Nat} {A : Nat → Prop}
    (hown : s.vm.findClass own = some m.cls) (hcls : Bundle.fit cls = true) (hnames : ∀ n ∈ names, Bundle.fit n = true)
    (hk : (Cond.classLink own ik cls).before args s = true) (hini : (Cond.initialized cls).before args s = true) (hstr : vk_R own is text sa s) (hat : ∀ w ∈ vx_atS own ic cls names, w.before args s = true)
    (hgood : ∀ w ∈ Cond.classLink own ik cls :: Cond.initialized cls :: vx_atS own ic cls names, vx_ot w = true)
    (hU : vx_Zq Bundle.tN "UNASSIGNED_STACK" Bundle.steD A s s.heap) (hN : vx_Zq Bundle.tN "SUPPRESSED_SENTINEL" Bundle.listD A s s.heap) (hS : va_S A s.heap H locs) (hsize : ls.size = c.maxLocals)
    (d0 : decode cc pc = .ok (.new ik, 3)) (d3 : decode cc (pc + 3) = .ok (.dup, 1)) (d4 : decode cc (pc + 4) = .ok (.ldc_w is, 3)) (d7 : decode cc (pc + 7) = .ok (.invokespecial ic, 3)) (d10 : decode cc (pc + 10) = .ok (.athrow, 1))
    (hout : ∀ x ∈ c.exceptionTable.toList, covers x (pc + 10) = false)
    (hRframes : names.length + 3 < R.frames) (hRlocals : (rest.map fun v => v.category).sum + (13 * (names.length + 1) + 43) ≤ R.locals) (hRcells : cells + 1 ≤ R.cells) (hRslots : slots + 6 ≤ R.slots) (hlocks : meth.locks = false)
    (hx : ∀ t : State, s.vm.Alike t.vm → H.size ≤ t.heap.size → (∀ q : Nat, q < H.size → t.heap[q]? = H[q]?) → XC cls s t)
    (hf : ∀ z ∈ locs, free z.base) (hc : cells + 1 ≤ mc) (hs : slots + 6 ≤ ms) :
    W p l e R s m args below meth c H locs cells slots (vx_MQ below Qc XC args s mc ms free) (F0 m pc ls rest) := by
  intro T hT X
  have htr : e.platform.stackTraces = false := (show e.platform.stackTraces = l.stackTraces by rw [X.admits.platform]).trans hl
  have Y := vx_rebase X (R' := { frames := R.frames, locals := R.locals, cells := 1, slots := 6 }) (Nat.le_refl _) (Nat.le_refl _) hRcells hRslots
  obtain ⟨s', hA⟩ : ∃ z, z = (T.setVm s.vm).setFrames (.invoking m args :: below) := ⟨_, rfl⟩
  rw [← hA] at Y
  have hvm : s'.vm = s.vm := by rw [hA]; rfl
  have hhp : s'.heap = H := by rw [hA]; exact hT
  have hW0 : s.WarmedH s'.vm := by rw [hvm]; exact State.WarmedH.refl s
  have hat' : ∀ w ∈ vx_atS own ic cls names, w.before args s' = true := fun w hw => vx_ot_at hW0 hvm.symm (hgood w (List.mem_cons_of_mem _ (List.mem_cons_of_mem _ hw))) (hat w hw)
  have hk' : (Cond.classLink own ik cls).before args s' = true := vx_ot_at hW0 hvm.symm (hgood _ List.mem_cons_self) hk
  have hini' : (Cond.initialized cls).before args s' = true := vx_ot_at hW0 hvm.symm (hgood _ (List.mem_cons_of_mem _ List.mem_cons_self)) hini
  have hU' : vx_Zq Bundle.tN "UNASSIGNED_STACK" Bundle.steD A s' s'.heap := by rw [hhp]; exact vx_Zq.moved hW0.alike (hU.kept hS.2.1)
  have hN' : vx_Zq Bundle.tN "SUPPRESSED_SENTINEL" Bundle.listD A s' s'.heap := by rw [hhp]; exact vx_Zq.moved hW0.alike (hN.kept hS.2.1)
  have h : ∀ w ∈ Bundle.ownAtoms own ic cls names, w.before args s' = true := vx_own hat' (vx_isRefq hU'.1) (vx_isRefq hN'.1) hU'.2.word hN'.2.word
  have hown' : s'.vm.findClass own = some m.cls := by rw [hvm]; exact hown
  have hins : (Cond.instantiable cls 6).before args s' = true := h _ (by simp [Bundle.ownAtoms])
  obtain ⟨vm₁, cX, kX, hfX, hkX, -, -, X₁, st1⟩ := Y.newCold hexec (own := own) (C := cls) (index := ik) (n := 6) hown' hk' hins hini'
    (g := F0 m pc ls rest) rfl (by rw [hb]; exact d0) (Nat.le_refl _) (Nat.le_refl _)
  generalize hT1 : (T.setVm vm₁).pushCell { cls := cX, slots := kX.instanceTypes.map defaultValue, vm := .none } = T1 at X₁ st1
  have hcat : (Value.ref T.heap.size).category = 1 := rfl
  have hcellA : T1.heap[T.heap.size]? = some (freshCell cX kX) := by rw [← hT1]; exact State.heap_pushCell_size _ _
  have d3' : decode c.code (pc + 3) = .ok (.dup, 1) := by rw [hb]; exact d3
  have d4' : decode c.code (pc + 4) = .ok (.ldc_w is, 3) := by rw [hb]; exact d4
  have hstr' : vk_R own is text sa s' := vk_R.warm hW0 hstr
  obtain ⟨U, hsteps, hrun, hend, hW, hsame, ce, hce, hO⟩ := X₁.ctorThrowS hexec htr (own := own) (cls := cls) (names := names) (ic := ic) hown' hcls hnames h (fun x hx => nomatch hx) hfX hkX hcellA (by rw [hhp, hT]; exact Nat.le_refl _) (msg := .ref sa) rfl
    (g := { method := m, pc := pc + 7, locals := ls, stack := .ref sa :: .ref T.heap.size :: .ref T.heap.size :: rest, locked := none }) rfl hsize rfl rfl (rest := rest) rfl
    (by rw [hb]; exact d7) (by rw [hb]; exact d10) hout hRframes (by simp only [List.map_cons, List.sum_cons, hcat]; omega) hlocks
  obtain ⟨f1, f2⟩ := vx_frame hsame
  rw [hhp] at f1 f2
  have hWs : s.WarmedH U.vm := State.WarmedH.trans hW0 hW
  have hcl : s.vm.findClass cls = some ce.cls := by
    have h9 := hO.cls
    rw [hvm] at h9
    exact h9
  have hall : s.sameButNew ({ U with vm := s.vm } : State) locs mc ms := by
    subst hA
    obtain ⟨e1, e2⟩ := hsame
    rw [State.setFrames_setFrames] at e1
    have h2 : (T.setVm s.vm).sameButNew ({ U with vm := s.vm } : State) [] (0 + 1) (0 + 6) := ⟨e1, e2⟩
    have h3 := X.same.trans h2
    rw [List.append_nil] at h3
    exact h3.mono hc hs
  refine ⟨U, ?_, .threw T.heap.size, hrun, hend, Or.inr ⟨T.heap.size, rfl, cls, ce, locs, hx U hWs.alike f1 (fun q hq => f2 q hq (fun z hz => nomatch hz)), hce, hO.vm, hcl, hWs, hall, hf⟩⟩
  refine st1 _ ?_
  show Steps p.tables e below (T1.setTop { method := m, pc := pc + 3, locals := ls, stack := .ref T.heap.size :: rest, locked := none }) _
  jvm_step X₁.here [X₁.here.top, hexec, d3', Value.category]
  exact X₁.ldcStringW hexec (own := own) (text := text) (index := is) (a := sa) hown' hstr'.1 hstr'.2
    (g := { method := m, pc := pc + 4, locals := ls, stack := .ref T.heap.size :: .ref T.heap.size :: rest, locked := none }) rfl d4' _ hsteps
end Ends
section Bodies
variable {l : Launch}
theorem vx_ofW {y : MethodName} {ws ws' : List Cond} {rm : Room} {Pc : Array Value → State → Prop} {Qc : Array Value → State → Outcome → State → Prop} {XC : String → State → State → Prop} {mc ms : Nat} {free : Addr → Prop} {cc : ByteArray} {maxL : Nat} {ret : Option FieldType}
    (hy : plainName y.cls = true) (hw : ws = Cond.code y cc maxL ret :: ws')
    (body : ∀ p e s m args below meth c s₁, BodyLoose p l y (headSpec ws rm) cc maxL ret e s m args below meth c s₁ → c.maxLocals = maxL → (∀ x ∈ c.exceptionTable.toList, False) → Pc args s →
      W p l e (headSpec ws rm).room s m args below meth c s.heap [] 0 0 (vx_MQ below Qc XC args s mc ms free) (entryFrame m args maxL)) : vx_Met l y ws rm Pc Qc XC mc ms free := by
  refine MetFree.of_bodyS (code := cc) (maxLocals := maxL) (ret := ret) hy ?_ ?_
  · intro args s m h hn
    obtain ⟨meth, c, h1, h2, h3, h4, h5, h6, -, -⟩ := Cond.code_spec hn (atoms_spec (ws := ws) h _ (by rw [hw]; exact List.mem_cons_self))
    exact ⟨meth, c, h1, h2, h3, h4, h5, h6⟩
  · intro p e s m args below meth c s₁ B hml hP _
    have hh0 : s₁.heap = s.heap := by rw [B.state]; rfl
    have ht : ∀ x ∈ c.exceptionTable.toList, False := by
      obtain ⟨meth9, c9, h1, h2, -, -, -, -, h7, -⟩ := Cond.code_spec B.named (atoms_spec (ws := ws) B.pre _ (by rw [hw]; exact List.mem_cons_self))
      cases Option.some.inj (h1.symm.trans B.method)
      cases Option.some.inj (h2.symm.trans (Stand.of_body B).code)
      intro x hx
      rw [Array.isEmpty_iff.mp h7] at hx
      cases hx
    obtain ⟨t, a1, o, b1, b2, b3⟩ := body p e s m args below meth c s₁ B hml ht hP s₁ hh0 (Stand.of_body B)
    exact ⟨t, o, a1, b1, b2, b3⟩
/-- the table of a body with handlers -/
theorem vx_table {p : Program} {x y : MethodName} {S : Spec} {cc bytes : ByteArray} {maxL maxL' : Nat} {ret ret' : Option FieldType} {e : Env} {s s₁ : State} {m : MethodId} {args : Array Value} {below : List Frame} {meth : Method} {c : Code} {hh : List (Nat × Nat × Nat × Nat)}
    (B : BodyLoose p l y S cc maxL ret e s m args below meth c s₁) (h : (Cond.codeWith y bytes maxL' ret' hh).before args s = true) : c.exceptionTable.toList = tableOf hh := by
  obtain ⟨m9, meth9, c9, hn9, h1, h2, -, -, h6, -⟩ := Cond.codeWith_spec h
  cases Option.some.inj (hn9.symm.trans B.named)
  cases Option.some.inj (h1.symm.trans B.method)
  cases Option.some.inj (h2.symm.trans (Stand.of_body B).code)
  rw [← h6, table_eq]
end Bodies
end VXA
/-! ===== END ===== -/
/-! ===== BEGIN a static call of a method with an exception table ===== -/
section VXS
variable {p : Program} {l : Launch} {e : Env} {R : Room} {s : State} {m : MethodId} {args : Array Value} {below : List Frame} {meth : Method} {c : Code} {T : State} {H : Heap} {locs : List Loc} {cells slots : Nat}
abbrev vx_CSW (R : Room) (s : State) (args : Array Value) (own : String) (index : Nat) (y : MethodName) (bytes : ByteArray) (maxL : Nat) (ret : Option FieldType) (hh : List (Nat × Nat × Nat × Nat)) (ws : List Cond) (rm : Room) (mc ms n : Nat) : Prop :=
  (rm.cells = mc ∧ rm.slots = ms ∧ rm.frames + 1 ≤ R.frames ∧ 8 + (maxL + 11) + rm.locals ≤ R.locals ∧ (∀ w ∈ ws, ∀ (a' : Array Value) (U : State), s.WarmedH U.vm → w.before a' U = true) ∧ Cond.codeWith y bytes maxL ret hh ∈ ws) ∧
  (Cond.codeWith y bytes maxL ret hh).before args s = true ∧ (Cond.initialized y.cls).before args s = true ∧ (y.cls ≠ "java/lang/invoke/MethodHandle" ∧ y.cls ≠ "java/lang/invoke/VarHandle") ∧
  (∀ sig, parseMethodDescriptor y.desc = some sig → n = sig.parameters.length) ∧ (Cond.methodLink own index y).before args s = true ∧ (Cond.static y).before args s = true
theorem vx_cwSW {own : String} {index maxL mc ms : Nat} {y : MethodName} {bytes : ByteArray} {ret : Option FieldType} {hh : List (Nat × Nat × Nat × Nat)} {Ts ws ws' : List Cond} {rm : Room} (n : Nat) (ht : ∀ w ∈ Ts, w.before args s = true) (hT : GoodIn Ts (va_wsS own index y ws)) (hw : ws = Cond.codeWith y bytes maxL ret hh :: ws') (hrc : rm.cells = mc) (hrs : rm.slots = ms)
    (hd : y.cls ≠ "java/lang/invoke/MethodHandle" ∧ y.cls ≠ "java/lang/invoke/VarHandle" ∧ (parseMethodDescriptor y.desc).map (fun d => d.parameters.length) = some n) (hR : rm.frames + 1 ≤ R.frames ∧ 8 + (maxL + 11) + rm.locals ≤ R.locals) :
    vx_CSW R s args own index y bytes maxL ret hh ws rm mc ms n := by
  have ok : ∀ w ∈ va_wsS own index y ws, w.before args s = true := fun w h => ht w (hT w h).1
  have hG : GoodIn Ts ws := fun w h => hT w (by unfold va_wsS; exact List.mem_append_right _ h)
  have hc : Cond.codeWith y bytes maxL ret hh ∈ ws := by rw [hw]; exact List.mem_cons_self
  refine ⟨⟨hrc, hrs, hR.1, hR.2, pay_in ht hG, hc⟩, ht _ (hG _ hc).1, ok _ (by simp [va_wsS]), ⟨hd.1, hd.2.1⟩, fun sig h => ?_, ok _ (by simp [va_wsS]), ok _ (by simp [va_wsS])⟩
  have h2 := hd.2.2
  rw [h] at h2
  exact (Option.some.inj h2).symm
theorem vx_callSW (X : Stand p l e R s m args below meth c T locs cells slots) (hexec : p.tables.exec = Jvm.exec) {own : String} {index : Nat} {y : MethodName} {bytes : ByteArray} {maxL : Nat} {ret : Option FieldType} {hh : List (Nat × Nat × Nat × Nat)}
    (hown : s.vm.findClass own = some m.cls) (hlink : (Cond.methodLink own index y).before args s = true) (hstat : (Cond.static y).before args s = true) (hinit : (Cond.initialized y.cls).before args s = true)
    (hcode : (Cond.codeWith y bytes maxL ret hh).before args s = true) (hy : y.cls ≠ "java/lang/invoke/MethodHandle" ∧ y.cls ≠ "java/lang/invoke/VarHandle")
    {W9 : Nat} {Pre : Pt → Array Value → Prop} {Post : Pt → Array Value → Option Value → Pt → Prop} (hK : Back l R p e below s args y 3 W9 Pre Post)
    {g : JFrame} (hg : g.method = m) (hsize : g.locals.size = c.maxLocals) {argsL rest : List Value} (hlen : ∀ sig, parseMethodDescriptor y.desc = some sig → argsL.length = sig.parameters.length)
    (hstack : g.stack = argsL.reverse ++ rest) (hW : 2 * g.monitorRoom + (rest.map fun v => v.category).sum ≤ W9) (hdg : decode c.code g.pc = .ok (.invokestatic index, 3))
    (hpre : ∀ vm₁, s.WarmedH vm₁ → Pre ⟨T.setVm vm₁, locs, cells, slots⟩ argsL.toArray) :
    ∃ (v : Option Value) (vm₁ : Vm) (B : Pt), s.WarmedH vm₁ ∧ Stand p l e R s m args below meth c B.U B.locs B.cells B.slots ∧ Post ⟨T.setVm vm₁, locs, cells, slots⟩ argsL.toArray v B ∧
      ∀ target, Steps p.tables e below (B.U.setTop { g with pc := g.pc + 3, stack := v.toList ++ rest }) target → Steps p.tables e below (T.setTop g) target := by
  obtain ⟨mk, methM, cM, hnamed, hmethM, -, -, -, -, -, -, hsigM⟩ := Cond.codeWith_spec hcode
  have hstatic : methM.isStatic = true := Cond.static_spec hnamed hmethM hstat
  obtain ⟨kP, hkP, -⟩ := className_of_methodNamed hnamed
  have hinitP : kP.init = .initialized := Cond.initialized_spec (findClass_of_methodNamed hnamed) hkP hinit
  obtain ⟨vm₁, X₁, hstep₁⟩ := X.invokestatic hexec hown hlink hnamed hmethM hstatic hkP hinitP hy (g := g) hg (argsL := argsL) (rest := rest) (hlen _ hsigM) hstack hdg
  obtain ⟨v, B, X', hpost, hsteps⟩ := hK m meth c ⟨T.setVm vm₁, locs, cells, slots⟩ { g with stack := rest } (.invokestatic index) mk argsL.toArray X₁ hg hsize hdg hW (X₁.named hnamed) (hpre vm₁ X₁.warmed)
  exact ⟨v, vm₁, B, X₁.warmed, X', hpost, fun target h => hstep₁ _ fun acts => by rw [doInvoke_state]; exact hsteps.trans h⟩
theorem vx_runSW {y : MethodName} {bytes cc : ByteArray} {maxL nL mc ms n index : Nat} {ret : Option FieldType} {hh : List (Nat × Nat × Nat × Nat)} {ws : List Cond} {rm : Room} {Pc : Array Value → State → Prop} {Qc : Array Value → State → Outcome → State → Prop} {free : Addr → Prop} {Ts : List Cond} {own : String} {As rest : List Value} {g : JFrame}
    (S : CallFix p m c cc nL s args Ts own) (hM : Met l y ws rm Pc Qc mc ms free) (cw : vx_CSW R s args own index y bytes maxL ret hh ws rm mc ms n) (hp : PreS s H Pc As)
    (hg : g.method = m) (hn : As.length = n) (hsize : g.locals.size = nL) (hstack : g.stack = As.reverse ++ rest) (hW : 2 * g.monitorRoom + (rest.map fun v => v.category).sum ≤ 8) (hdg : decode cc g.pc = .ok (.invokestatic index, 3)) (hf : cells + mc ≤ R.cells ∧ slots + ms ≤ R.slots) :
    va_Run p l e R s m args below meth c H locs cells slots mc ms g rest (Qc As.toArray) (free) := by
  obtain ⟨⟨hrc, hrs, hfr, hlo, hws, hcw⟩, hcode, hini, hy, hlen, hl, hstt⟩ := cw
  have hK : Back l R p e below s args y 3 8 (PreOf R mc ms Pc) (PostOf Qc mc ms free) := va_backW (hh := hh) (bytes := bytes) (maxL := maxL) (ret := ret) hM hp.1 hrc hrs hfr hlo hws hcw (fun a' U hW => word_at hW (Or.inl (by first | rfl | simp [Cond.onTables, Cond.keeps, Cond.steady])) hini)
  obtain ⟨hx, hb, hml, ho, -⟩ := S
  intro T hT X
  obtain ⟨v, vm₁, ⟨U', l2, c2, s2⟩, hW₁, X', ⟨g', mk, t, L, e1, e2, hq, h1, hL, h2, h3⟩, st⟩ := vx_callSW X hx (hh := hh) (bytes := bytes) (maxL := maxL) (ret := ret) ho hl hstt hini hcode hy hK hg (hsize.trans hml.symm) (argsL := As) (rest := rest) (fun sig h => hn.trans (hlen sig h)) hstack hW (by rw [hb]; exact hdg)
    (fun vm₁ hW₁ => ⟨hf.1, hf.2, hp.2 (T.setVm vm₁) hT hW₁⟩)
  dsimp only [Pt.U, Pt.locs, Pt.cells, Pt.slots] at X' e1 e2 h1 h2 h3 st
  subst h1; subst h2; subst h3
  exact ⟨v, (T.setVm vm₁).calling g' mk As.toArray, t, U', L, hT, X', hL, e1, e2, hq, st⟩
/-- not caught here, past rows that name other classes: it goes on to the caller -/
theorem vx_outP {p : Program} {l : Launch} {e : Env} {R : Room} {s : State} {m : MethodId} {args : Array Value} {below : List Frame} {meth : Method} {c : Code} {H : Heap} {locs : List Loc} {cells slots : Nat} {free : Addr → Prop} {ls : Array Slot} {rest : List Value} {Qc : Array Value → State → Outcome → State → Prop} {XC : String → State → State → Prop}
    {pc : Nat} {own E : String} {ce : Cell} {q : Addr} {mc ms : Nat} (hown : s.vm.findClass own = some m.cls) (hlocks : meth.locks = false)
    (hpass : ∀ z ∈ c.exceptionTable.toList, covers z pc = false ∨ (z.catchType ≠ 0 ∧ ∃ nm : String, (Cond.classLink own z.catchType nm).before args s = true ∧ va_Nc E nm s)) (hcell : H[q]? = some ce) (hv : ce.vm = .none) (hcl : s.vm.findClass E = some ce.cls)
    (hx : ∀ t : State, t.heap = H → s.vm.Alike t.vm → XC E s t) (hf : ∀ z ∈ locs, free z.base) (hc : cells ≤ mc) (hs : slots ≤ ms) :
    vx_W p l e R s m args below meth c H locs cells slots (vx_MQ below Qc XC args s mc ms free) (F0 m pc ls rest) q := by
  intro T hT X
  have hpl : e.platform.magicAccessors = ({} : Platform).magicAccessors := by rw [X.admits.platform]
  obtain ⟨vm', hW', X', st⟩ := X.outThrough hlocks q (g := F0 m pc ls rest) rfl rfl rfl (cell := ce) (by rw [hT]; exact hcell) (by rw [hv]; rfl)
    (by obtain ⟨k9, h9, -⟩ := Vm.findClass_spec hcl; exact ⟨k9, h9⟩) (fun z hz => by
      rcases hpass z hz with h | ⟨hz0, nm, hl1, hn1⟩
      · exact Or.inl h
      · obtain ⟨c6, hc6, hcl6⟩ := Cond.classLink_spec hown hl1 e.platform hpl
        obtain ⟨a8, b8, h1, h2, h3⟩ := hn1
        cases Option.some.inj (h1.symm.trans hcl)
        cases Option.some.inj (h2.symm.trans hc6)
        exact Or.inr ⟨hz0, _, hcl6, h3⟩)
  obtain ⟨g₀, hfr⟩ := X'.frames_eq
  have hcell9 : ((T.setVm vm').setFrames (.throwing q :: below)).heap[q]? = some ce := by
    show T.heap[q]? = some ce
    rw [hT]; exact hcell
  have hend : Ended ((T.setVm vm').setFrames (.throwing q :: below)) below (.threw q) := State.frames_setFrames _ (State.cur_lt_of_frames hfr)
  refine ⟨(T.setVm vm').setFrames (.throwing q :: below), ?_, .threw q, X'.here.running, hend, Or.inr ⟨q, rfl, E, ce, locs, hx _ hT (X'.ends _).1.alike, hcell9, hv, hcl, (X'.ends _).1, (X'.ends _).2.mono hc hs, hf⟩⟩
  rw [X.pushThrowing_eq]
  exact st
/-- a thing of a world lies in the heap -/
theorem vx_lt {D : va_G} {cl : List vw_C} {ws : va_W} {H1 : Heap} (h : va_P D cl ws H1) {k : Nat} {q : Nat × va_E} (hk : ws[k]? = some q) : q.1 < H1.size := (h k q hk).lt
end VXS
/-! ===== END ===== -/
/-! ===== BEGIN methods with a table of their own: called by a name, returning or throwing ===== -/
section VXH
/-! vx_backW, vx_callVX, vx_callSX, vx_callVW, vx_runVW, vx_runVX, vx_runSX, vx_ofWH follow the same proofs as their sisters above (Free/Laws.lean, Shelf42/LK1.lean); vx_outP calls Shelf42/NT130.lean (outThrough). -/
section
variable {l : Launch} {R : Room} {p : Program} {e : Env} {below : List Frame} {s : State} {sargs : Array Value} {y : MethodName} {len W9 : Nat}
theorem vx_backW {ws : List Cond} {rm : Room} {Pc : Array Value → State → Prop} {Qc : Array Value → State → Outcome → State → Prop} {XC : String → State → State → Prop} {mc ms : Nat} {free : Addr → Prop} {bytes : ByteArray} {maxL : Nat} {ret : Option FieldType} {hh : List (Nat × Nat × Nat × Nat)}
    (hM : vx_Met l y ws rm Pc Qc XC mc ms free) (hblind : FrameBlind Pc) (hrc : rm.cells = mc) (hrs : rm.slots = ms)
    (hframes : rm.frames + 1 ≤ R.frames) (hlocals : W9 + (maxL + 11) + rm.locals ≤ R.locals)
    (hws : ∀ w ∈ ws, ∀ a' U, s.WarmedH U.vm → w.before a' U = true) (hcode : Cond.codeWith y bytes maxL ret hh ∈ ws) (hinit : ∀ a' U, s.WarmedH U.vm → (Cond.initialized y.cls).before a' U = true) :
    vx_Back l R p e below s sargs y len W9 (PreOf R mc ms Pc) (PostOf Qc mc ms free) (vx_Post XC mc ms free) := by
  intro m meth c A g ig mk a X hg hsize hdg hW hn hp
  have h1 : (headSpec ws rm).pre.before a A.U = true := atoms_intro fun w hw => hws w hw _ _ X.warmed
  have h2 : (Cond.codeWith y bytes maxL ret hh).before a A.U = true := hws _ hcode _ _ X.warmed
  have h3 : (Cond.initialized y.cls).before a A.U = true := hinit _ _ X.warmed
  have h4 : A.cells + (headSpec ws rm).room.cells ≤ R.cells := by rw [show (headSpec ws rm).room.cells = mc from hrc]; exact hp.1
  have h5 : A.slots + (headSpec ws rm).room.slots ≤ R.slots := by rw [show (headSpec ws rm).room.slots = ms from hrs]; exact hp.2.1
  have hPc : Pc a (A.U.calling g mk a) := hblind _ _ _ _ hp.2.2
  obtain ⟨U, Ls, c0, s0⟩ := A
  dsimp only [Pt.U, Pt.locs, Pt.cells, Pt.slots] at h1 h2 h3 h4 h5 X hn hPc ⊢
  obtain ⟨m9, methY, cY, hn9, hmY, hcY, -, hlY, -⟩ := Cond.codeWith_spec h2
  cases Option.some.inj (hn9.symm.trans hn)
  obtain ⟨kY, hkY, -⟩ := className_of_methodNamed hn
  have hinitY : kY.init = .initialized := Cond.initialized_spec (findClass_of_methodNamed hn) hkY h3
  have h : At U g.method c below := by rw [hg]; exact X.here
  have hlocals9 : W9 + (maxL + 11) + (headSpec ws rm).room.locals ≤ R.locals := hlocals
  have happ : (headSpec ws rm).appliesLoose y e.platform (U.calling g mk a) = true :=
    Spec.appliesLoose_calling (g := g) h hdg hn hkY hinitY
      (X.room_calling (g := g) (R' := (headSpec ws rm).room) hsize hmY hcY hframes (by rw [hlY]; omega) h4 h5) h1
  obtain ⟨mid, hmid⟩ := h.above
  have hfr : (U.setTop g).frames = (.java g :: mid) ++ below := by rw [State.frames_setTop' g h.top, hmid]; rfl
  obtain ⟨o, s₂, hsteps, -, hend, hq⟩ := Steps.callFree hM p X.admits X.cas X.clock (acts := []) hfr happ hPc trivial
  have hq' : vx_Q Qc XC mc ms free a (U.calling g mk a) o s₂ := hq
  rw [State.frames_setTop' g h.top] at hend
  obtain ⟨g₀, hg0⟩ := Option.isSome_iff_exists.mp h.top
  obtain ⟨r, hr⟩ := State.topJava?_eq_some.mp hg0
  have hr' : (({ U with heap := s₂.heap, slotsUsed := s₂.slotsUsed } : State).setVm s₂.vm).frames = .java g₀ :: r := hr
  rcases hq' with ⟨hqc, L, hfe, hL⟩ | ⟨q, rfl, E, ce, L, hx, hce, hcv, hcl, hW₂, hsm, hL⟩
  · obtain ⟨⟨v, rfl⟩, hW₂, e2, q2, q3, q4, q5, q6⟩ := id hfe
    have e3 : s₂ = ({ (U.calling g mk a).setFrames s₂.frames with heap := s₂.heap, slotsUsed := s₂.slotsUsed } : State).setVm s₂.vm := by
      have : s₂ = ({ s₂ with vm := (U.calling g mk a).vm } : State).setVm s₂.vm := rfl
      rw [e2] at this
      exact this
    obtain ⟨c₂, i₂, len₂, hc₂, hd₂, hf₂⟩ := hend
    have hW' : U.WarmedH s₂.vm := hW₂
    have hcc : c₂ = c := by
      have h1 : s₂.code? g.method = U.code? g.method := by
        rw [State.code?_eq, State.code?_eq, hW'.alike.method?]
      exact Option.some.inj (hc₂.symm.trans (h1.trans h.code))
    subst hcc
    have hlen : len₂ = len := by rw [hdg] at hd₂; cases hd₂; rfl
    subst hlen
    have hs₂ : s₂ = (({ U with heap := s₂.heap, slotsUsed := s₂.slotsUsed } : State).setVm s₂.vm).setTop { g with pc := g.pc + len₂, stack := v.toList ++ g.stack } := by
      refine e3.trans ?_
      rw [hf₂, State.calling_eq h.top, State.setFrames_setFrames, State.setTop_of_frames _ hr', hr]
      rfl
    have hsame : U.sameButNew ({ U with heap := s₂.heap, slotsUsed := s₂.slotsUsed } : State) L mc ms := by
      refine ⟨?_, q2, q3, q4, q5, q6⟩
      obtain ⟨t, ht, -⟩ := State.frames_cons hr
      show ({ U with heap := s₂.heap, slotsUsed := s₂.slotsUsed } : State) = { U.setFrames U.frames with heap := s₂.heap, slotsUsed := s₂.slotsUsed }
      rw [State.setFrames_self ht]
    subst hg
    refine Or.inl ⟨v, ⟨(({ U with heap := s₂.heap, slotsUsed := s₂.slotsUsed } : State).setVm s₂.vm), Ls ++ L, c0 + mc, s0 + ms⟩,
      ⟨X.admits, X.cas, X.clock, X.frames, X.room, X.hears, X.method, X.code, (X.here.setHeapUsed s₂.heap s₂.slotsUsed).setVm hW'.alike, X.tail, State.WarmedH.trans X.warmed hW', X.limits, X.bytes, X.same.trans (hsame.setVm s.vm)⟩,
      ⟨g, mk, s₂, L, rfl, rfl, hqc, rfl, hL, rfl, rfl⟩, ?_⟩
    show Steps p.tables e below _ ((({ U with heap := s₂.heap, slotsUsed := s₂.slotsUsed } : State).setVm s₂.vm).setTop { g with pc := g.pc + len₂, stack := v.toList ++ g.stack })
    rw [← hs₂]
    exact hsteps
  · obtain ⟨e2, q2, q3, q4, q5, q6⟩ := id hsm
    have e3 : s₂ = ({ (U.calling g mk a).setFrames s₂.frames with heap := s₂.heap, slotsUsed := s₂.slotsUsed } : State).setVm s₂.vm := by
      have : s₂ = ({ s₂ with vm := (U.calling g mk a).vm } : State).setVm s₂.vm := rfl
      rw [e2] at this
      exact this
    have hf₂ : s₂.frames = .throwing q :: .java g :: U.frames.tail := hend
    have hW' : U.WarmedH s₂.vm := hW₂
    have hs₂ : s₂ = ((({ U with heap := s₂.heap, slotsUsed := s₂.slotsUsed } : State).setVm s₂.vm).setTop g).pushFrame (.throwing q) := by
      refine e3.trans ?_
      rw [hf₂, State.calling_eq h.top, State.setFrames_setFrames, State.pushFrame, State.frames_setTop _ hr', State.setTop_of_frames _ hr', State.setFrames_setFrames, hr]
      rfl
    have hsame : U.sameButNew ({ U with heap := s₂.heap, slotsUsed := s₂.slotsUsed } : State) L mc ms := by
      refine ⟨?_, q2, q3, q4, q5, q6⟩
      obtain ⟨t, ht, -⟩ := State.frames_cons hr
      show ({ U with heap := s₂.heap, slotsUsed := s₂.slotsUsed } : State) = { U.setFrames U.frames with heap := s₂.heap, slotsUsed := s₂.slotsUsed }
      rw [State.setFrames_self ht]
    subst hg
    refine Or.inr ⟨q, ⟨(({ U with heap := s₂.heap, slotsUsed := s₂.slotsUsed } : State).setVm s₂.vm), Ls ++ L, c0 + mc, s0 + ms⟩,
      ⟨X.admits, X.cas, X.clock, X.frames, X.room, X.hears, X.method, X.code, (X.here.setHeapUsed s₂.heap s₂.slotsUsed).setVm hW'.alike, X.tail, State.WarmedH.trans X.warmed hW', X.limits, X.bytes, X.same.trans (hsame.setVm s.vm)⟩,
      ⟨g, mk, s₂, L, E, ce, rfl, rfl, hx, hce, hcv, hcl, rfl, hL, rfl, rfl⟩, ?_⟩
    show Steps p.tables e below _ (((({ U with heap := s₂.heap, slotsUsed := s₂.slotsUsed } : State).setVm s₂.vm).setTop g).pushFrame (.throwing q))
    rw [← hs₂]
    exact hsteps
end
variable {p : Program} {l : Launch} {e : Env} {R : Room} {s : State} {m : MethodId} {args : Array Value} {below : List Frame} {meth : Method} {c : Code} {T : State} {H : Heap} {locs : List Loc} {cells slots : Nat}
theorem vx_callVX (X : Stand p l e R s m args below meth c T locs cells slots) (hexec : p.tables.exec = Jvm.exec) {own C : String} {index : Nat} {y : MethodName} {bytes : ByteArray} {maxL : Nat} {ret : Option FieldType} {hh : List (Nat × Nat × Nat × Nat)}
    (hown : s.vm.findClass own = some m.cls) (hlink : (Cond.methodLink own index y).before args s = true) (hinst : (Cond.instanceMethod y).before args s = true) (hsel : (Cond.selects C y y).before args s = true)
    (hcode : (Cond.codeWith y bytes maxL ret hh).before args s = true) (hy : y.cls ≠ "java/lang/invoke/MethodHandle" ∧ y.cls ≠ "java/lang/invoke/VarHandle")
    {W9 : Nat} {Pre : Pt → Array Value → Prop} {Post : Pt → Array Value → Option Value → Pt → Prop} {PostX : Pt → Array Value → Addr → Pt → Prop} (hK : vx_Back l R p e below s args y 3 W9 Pre Post PostX)
    {b : Addr} {cellB : Cell} (hcell : T.heap[b]? = some cellB) (hobj : cellB.vm.isStatics = false) (hcls : s.vm.findClass C = some cellB.cls)
    {g : JFrame} (hg : g.method = m) (hsize : g.locals.size = c.maxLocals) {argsL rest : List Value} (hlen : ∀ sig, parseMethodDescriptor y.desc = some sig → argsL.length = sig.parameters.length)
    (hstack : g.stack = argsL.reverse ++ .ref b :: rest) (hW : 2 * g.monitorRoom + (rest.map fun v => v.category).sum ≤ W9) (hdg : decode c.code g.pc = .ok (.invokevirtual index, 3))
    (hpre : ∀ vm₁, s.WarmedH vm₁ → Pre ⟨T.setVm vm₁, locs, cells, slots⟩ (Value.ref b :: argsL).toArray) :
    (∃ (v : Option Value) (vm₁ : Vm) (B : Pt), s.WarmedH vm₁ ∧ Stand p l e R s m args below meth c B.U B.locs B.cells B.slots ∧ Post ⟨T.setVm vm₁, locs, cells, slots⟩ (Value.ref b :: argsL).toArray v B ∧
      ∀ target, Steps p.tables e below (B.U.setTop { g with pc := g.pc + 3, stack := v.toList ++ rest }) target → Steps p.tables e below (T.setTop g) target) ∨
    (∃ (q : Addr) (vm₁ : Vm) (B : Pt), s.WarmedH vm₁ ∧ Stand p l e R s m args below meth c B.U B.locs B.cells B.slots ∧ PostX ⟨T.setVm vm₁, locs, cells, slots⟩ (Value.ref b :: argsL).toArray q B ∧
      Steps p.tables e below (T.setTop g) ((B.U.setTop { g with stack := rest }).pushFrame (.throwing q))) := by
  obtain ⟨mk, methM, hnamed, hmethM, hstM, habM⟩ := Cond.instanceMethod_spec hinst
  obtain ⟨m8, methM', cM, hn8, hmethM', -, -, -, -, -, -, hsigM⟩ := Cond.codeWith_spec hcode
  cases Option.some.inj (hn8.symm.trans hnamed)
  cases hmethM.symm.trans hmethM'
  obtain ⟨c2, r2, m2, q1, q2, q3, q4, kP, hkP, hkPi⟩ := Cond.selects_spec hsel
  cases hcls.symm.trans q1
  cases (State.methodFound?_of_named hnamed hy).symm.trans q2
  cases hnamed.symm.trans q3
  have hselP : selectMethod e.platform s.vm cellB.cls mk = .method mk := by rw [Launch.admits_selectMethod X.admits]; exact q4
  obtain ⟨vm₁, X₁, hstep₁⟩ := X.invokevirtual hexec hown hlink hnamed hmethM hstM hkP hkPi hy (a := b) (cell := cellB) hcell
    (fun z h => by rw [h] at hobj; cases hobj) hselP hmethM habM hkP hkPi (g := g) hg (argsL := argsL) (rest := rest) (hlen _ hsigM) hstack hdg
  rcases hK m meth c ⟨T.setVm vm₁, locs, cells, slots⟩ { g with stack := rest } (.invokevirtual index) mk (Value.ref b :: argsL).toArray X₁ hg hsize hdg hW (X₁.named hnamed) (hpre vm₁ X₁.warmed) with ⟨v, B, X', hpost, hsteps⟩ | ⟨q, B, X', hpost, hsteps⟩
  · exact Or.inl ⟨v, vm₁, B, X₁.warmed, X', hpost, fun target h => hstep₁ _ fun acts => by rw [doInvoke_state]; exact hsteps.trans h⟩
  · exact Or.inr ⟨q, vm₁, B, X₁.warmed, X', hpost, hstep₁ _ fun acts => by rw [doInvoke_state]; exact hsteps⟩
theorem vx_callSX (X : Stand p l e R s m args below meth c T locs cells slots) (hexec : p.tables.exec = Jvm.exec) {own : String} {index : Nat} {y : MethodName} {bytes : ByteArray} {maxL : Nat} {ret : Option FieldType} {hh : List (Nat × Nat × Nat × Nat)}
    (hown : s.vm.findClass own = some m.cls) (hlink : (Cond.methodLink own index y).before args s = true) (hstat : (Cond.static y).before args s = true) (hinit : (Cond.initialized y.cls).before args s = true)
    (hcode : (Cond.codeWith y bytes maxL ret hh).before args s = true) (hy : y.cls ≠ "java/lang/invoke/MethodHandle" ∧ y.cls ≠ "java/lang/invoke/VarHandle")
    {W9 : Nat} {Pre : Pt → Array Value → Prop} {Post : Pt → Array Value → Option Value → Pt → Prop} {PostX : Pt → Array Value → Addr → Pt → Prop} (hK : vx_Back l R p e below s args y 3 W9 Pre Post PostX)
    {g : JFrame} (hg : g.method = m) (hsize : g.locals.size = c.maxLocals) {argsL rest : List Value} (hlen : ∀ sig, parseMethodDescriptor y.desc = some sig → argsL.length = sig.parameters.length)
    (hstack : g.stack = argsL.reverse ++ rest) (hW : 2 * g.monitorRoom + (rest.map fun v => v.category).sum ≤ W9) (hdg : decode c.code g.pc = .ok (.invokestatic index, 3))
    (hpre : ∀ vm₁, s.WarmedH vm₁ → Pre ⟨T.setVm vm₁, locs, cells, slots⟩ argsL.toArray) :
    (∃ (v : Option Value) (vm₁ : Vm) (B : Pt), s.WarmedH vm₁ ∧ Stand p l e R s m args below meth c B.U B.locs B.cells B.slots ∧ Post ⟨T.setVm vm₁, locs, cells, slots⟩ argsL.toArray v B ∧
      ∀ target, Steps p.tables e below (B.U.setTop { g with pc := g.pc + 3, stack := v.toList ++ rest }) target → Steps p.tables e below (T.setTop g) target) ∨
    (∃ (q : Addr) (vm₁ : Vm) (B : Pt), s.WarmedH vm₁ ∧ Stand p l e R s m args below meth c B.U B.locs B.cells B.slots ∧ PostX ⟨T.setVm vm₁, locs, cells, slots⟩ argsL.toArray q B ∧
      Steps p.tables e below (T.setTop g) ((B.U.setTop { g with stack := rest }).pushFrame (.throwing q))) := by
  obtain ⟨mk, methM, cM, hnamed, hmethM, -, -, -, -, -, -, hsigM⟩ := Cond.codeWith_spec hcode
  have hstatic : methM.isStatic = true := Cond.static_spec hnamed hmethM hstat
  obtain ⟨kP, hkP, -⟩ := className_of_methodNamed hnamed
  have hinitP : kP.init = .initialized := Cond.initialized_spec (findClass_of_methodNamed hnamed) hkP hinit
  obtain ⟨vm₁, X₁, hstep₁⟩ := X.invokestatic hexec hown hlink hnamed hmethM hstatic hkP hinitP hy (g := g) hg (argsL := argsL) (rest := rest) (hlen _ hsigM) hstack hdg
  rcases hK m meth c ⟨T.setVm vm₁, locs, cells, slots⟩ { g with stack := rest } (.invokestatic index) mk argsL.toArray X₁ hg hsize hdg hW (X₁.named hnamed) (hpre vm₁ X₁.warmed) with ⟨v, B, X', hpost, hsteps⟩ | ⟨q, B, X', hpost, hsteps⟩
  · exact Or.inl ⟨v, vm₁, B, X₁.warmed, X', hpost, fun target h => hstep₁ _ fun acts => by rw [doInvoke_state]; exact hsteps.trans h⟩
  · exact Or.inr ⟨q, vm₁, B, X₁.warmed, X', hpost, hstep₁ _ fun acts => by rw [doInvoke_state]; exact hsteps⟩
theorem vx_callVW (X : Stand p l e R s m args below meth c T locs cells slots) (hexec : p.tables.exec = Jvm.exec) {own C : String} {index : Nat} {y : MethodName} {bytes : ByteArray} {maxL : Nat} {ret : Option FieldType} {hh : List (Nat × Nat × Nat × Nat)}
    (hown : s.vm.findClass own = some m.cls) (hlink : (Cond.methodLink own index y).before args s = true) (hinst : (Cond.instanceMethod y).before args s = true) (hsel : (Cond.selects C y y).before args s = true)
    (hcode : (Cond.codeWith y bytes maxL ret hh).before args s = true) (hy : y.cls ≠ "java/lang/invoke/MethodHandle" ∧ y.cls ≠ "java/lang/invoke/VarHandle")
    {W9 : Nat} {Pre : Pt → Array Value → Prop} {Post : Pt → Array Value → Option Value → Pt → Prop} (hK : Back l R p e below s args y 3 W9 Pre Post)
    {b : Addr} {cellB : Cell} (hcell : T.heap[b]? = some cellB) (hobj : cellB.vm.isStatics = false) (hcls : s.vm.findClass C = some cellB.cls)
    {g : JFrame} (hg : g.method = m) (hsize : g.locals.size = c.maxLocals) {argsL rest : List Value} (hlen : ∀ sig, parseMethodDescriptor y.desc = some sig → argsL.length = sig.parameters.length)
    (hstack : g.stack = argsL.reverse ++ .ref b :: rest) (hW : 2 * g.monitorRoom + (rest.map fun v => v.category).sum ≤ W9) (hdg : decode c.code g.pc = .ok (.invokevirtual index, 3))
    (hpre : ∀ vm₁, s.WarmedH vm₁ → Pre ⟨T.setVm vm₁, locs, cells, slots⟩ (Value.ref b :: argsL).toArray) :
    ∃ (v : Option Value) (vm₁ : Vm) (B : Pt), s.WarmedH vm₁ ∧ Stand p l e R s m args below meth c B.U B.locs B.cells B.slots ∧ Post ⟨T.setVm vm₁, locs, cells, slots⟩ (Value.ref b :: argsL).toArray v B ∧
      ∀ target, Steps p.tables e below (B.U.setTop { g with pc := g.pc + 3, stack := v.toList ++ rest }) target → Steps p.tables e below (T.setTop g) target := by
  obtain ⟨mk, methM, hnamed, hmethM, hstM, habM⟩ := Cond.instanceMethod_spec hinst
  obtain ⟨m8, methM', cM, hn8, hmethM', -, -, -, -, -, -, hsigM⟩ := Cond.codeWith_spec hcode
  cases Option.some.inj (hn8.symm.trans hnamed)
  cases hmethM.symm.trans hmethM'
  obtain ⟨c2, r2, m2, q1, q2, q3, q4, kP, hkP, hkPi⟩ := Cond.selects_spec hsel
  cases hcls.symm.trans q1
  cases (State.methodFound?_of_named hnamed hy).symm.trans q2
  cases hnamed.symm.trans q3
  have hselP : selectMethod e.platform s.vm cellB.cls mk = .method mk := by rw [Launch.admits_selectMethod X.admits]; exact q4
  obtain ⟨vm₁, X₁, hstep₁⟩ := X.invokevirtual hexec hown hlink hnamed hmethM hstM hkP hkPi hy (a := b) (cell := cellB) hcell
    (fun z h => by rw [h] at hobj; cases hobj) hselP hmethM habM hkP hkPi (g := g) hg (argsL := argsL) (rest := rest) (hlen _ hsigM) hstack hdg
  obtain ⟨v, B, X', hpost, hsteps⟩ := hK m meth c ⟨T.setVm vm₁, locs, cells, slots⟩ { g with stack := rest } (.invokevirtual index) mk (Value.ref b :: argsL).toArray X₁ hg hsize hdg hW (X₁.named hnamed) (hpre vm₁ X₁.warmed)
  exact ⟨v, vm₁, B, X₁.warmed, X', hpost, fun target h => hstep₁ _ fun acts => by rw [doInvoke_state]; exact hsteps.trans h⟩
abbrev vx_CVW (R : Room) (s : State) (args : Array Value) (own C : String) (index : Nat) (y : MethodName) (bytes : ByteArray) (maxL : Nat) (ret : Option FieldType) (hh : List (Nat × Nat × Nat × Nat)) (ws : List Cond) (rm : Room) (mc ms n : Nat) : Prop :=
  (rm.cells = mc ∧ rm.slots = ms ∧ rm.frames + 1 ≤ R.frames ∧ 8 + (maxL + 11) + rm.locals ≤ R.locals ∧ (∀ w ∈ ws, ∀ (a' : Array Value) (U : State), s.WarmedH U.vm → w.before a' U = true) ∧ Cond.codeWith y bytes maxL ret hh ∈ ws) ∧
  (Cond.codeWith y bytes maxL ret hh).before args s = true ∧ (Cond.initialized y.cls).before args s = true ∧ (y.cls ≠ "java/lang/invoke/MethodHandle" ∧ y.cls ≠ "java/lang/invoke/VarHandle") ∧
  (∀ sig, parseMethodDescriptor y.desc = some sig → n = sig.parameters.length) ∧ (Cond.methodLink own index y).before args s = true ∧ (Cond.instanceMethod y).before args s = true ∧ (Cond.selects C y y).before args s = true
theorem vx_cwVW {own C : String} {index maxL mc ms : Nat} {y : MethodName} {bytes : ByteArray} {ret : Option FieldType} {hh : List (Nat × Nat × Nat × Nat)} {Ts ws ws' : List Cond} {rm : Room} (n : Nat) (ht : ∀ w ∈ Ts, w.before args s = true) (hT : GoodIn Ts (wsV own index C y ws)) (hw : ws = Cond.codeWith y bytes maxL ret hh :: ws') (hrc : rm.cells = mc) (hrs : rm.slots = ms)
    (hd : y.cls = C ∧ y.cls ≠ "java/lang/invoke/MethodHandle" ∧ y.cls ≠ "java/lang/invoke/VarHandle" ∧ (parseMethodDescriptor y.desc).map (fun d => d.parameters.length) = some n) (hR : rm.frames + 1 ≤ R.frames ∧ 8 + (maxL + 11) + rm.locals ≤ R.locals) :
    vx_CVW R s args own C index y bytes maxL ret hh ws rm mc ms n := by
  obtain ⟨hC, hd⟩ := hd
  subst hC
  have ok : ∀ w ∈ wsV own index y.cls y ws, w.before args s = true := fun w h => ht w (hT w h).1
  have hG : GoodIn Ts ws := fun w h => hT w (by unfold wsV; exact List.mem_append_right _ h)
  have hc : Cond.codeWith y bytes maxL ret hh ∈ ws := by rw [hw]; exact List.mem_cons_self
  refine ⟨⟨hrc, hrs, hR.1, hR.2, pay_in ht hG, hc⟩, ht _ (hG _ hc).1, ok _ (by simp [wsV]), ⟨hd.1, hd.2.1⟩, fun sig h => ?_, ok _ (by simp [wsV]), ok _ (by simp [wsV]), ok _ (by simp [wsV])⟩
  have h2 := hd.2.2
  rw [h] at h2
  exact (Option.some.inj h2).symm
theorem vx_runVW {y : MethodName} {bytes cc : ByteArray} {maxL nL mc ms n index : Nat} {ret : Option FieldType} {hh : List (Nat × Nat × Nat × Nat)} {ws : List Cond} {rm : Room} {Pc : Array Value → State → Prop} {Qc : Array Value → State → Outcome → State → Prop} {free : Addr → Prop} {Ts : List Cond} {own C : String} {b : Addr} {As rest : List Value} {g : JFrame}
    (S : CallFix p m c cc nL s args Ts own) (hM : Met l y ws rm Pc Qc mc ms free) (cw : vx_CVW R s args own C index y bytes maxL ret hh ws rm mc ms n) (hp : PreV s H C b Pc As)
    (hg : g.method = m) (hn : As.length = n) (hsize : g.locals.size = nL) (hstack : g.stack = As.reverse ++ .ref b :: rest) (hW : 2 * g.monitorRoom + (rest.map fun v => v.category).sum ≤ 8) (hdg : decode cc g.pc = .ok (.invokevirtual index, 3)) (hf : cells + mc ≤ R.cells ∧ slots + ms ≤ R.slots) :
    va_Run p l e R s m args below meth c H locs cells slots mc ms g rest (Qc (Value.ref b :: As).toArray) free := by
  obtain ⟨⟨hrc, hrs, hfr, hlo, hws, hcw⟩, hcode, hini, hy, hlen, hl, hin, hse⟩ := cw
  have hK : Back l R p e below s args y 3 8 (PreOf R mc ms Pc) (PostOf Qc mc ms free) := va_backW (hh := hh) (bytes := bytes) (maxL := maxL) (ret := ret) hM hp.1 hrc hrs hfr hlo hws hcw (fun a' U hW => word_at hW (Or.inl (by first | rfl | simp [Cond.onTables, Cond.keeps, Cond.steady])) hini)
  obtain ⟨hx, hb, hml, ho, -⟩ := S
  obtain ⟨-, ⟨cellB, hcB, hoB, hclB⟩, hPc⟩ := hp
  intro T hT X
  obtain ⟨v, vm₁, ⟨U', l2, c2, s2⟩, hW₁, X', ⟨g', mk, t, L, e1, e2, hq, h1, hL, h2, h3⟩, st⟩ := vx_callVW X hx (C := C) (hh := hh) (bytes := bytes) (maxL := maxL) (ret := ret) ho hl hin hse hcode hy hK (by rw [hT]; exact hcB) hoB hclB hg (hsize.trans hml.symm) (argsL := As) (rest := rest) (fun sig h => hn.trans (hlen sig h)) hstack hW (by rw [hb]; exact hdg)
    (fun vm₁ hW₁ => ⟨hf.1, hf.2, hPc (T.setVm vm₁) hT hW₁⟩)
  dsimp only [Pt.U, Pt.locs, Pt.cells, Pt.slots] at X' e1 e2 h1 h2 h3 st
  subst h1; subst h2; subst h3
  exact ⟨v, (T.setVm vm₁).calling g' mk (Value.ref b :: As).toArray, t, U', L, hT, X', hL, e1, e2, hq, st⟩
section
variable {y : MethodName} {bytes cc : ByteArray} {maxL nL mc ms n index : Nat} {ret : Option FieldType} {ws : List Cond} {rm : Room} {Pc : Array Value → State → Prop} {Qc : Array Value → State → Outcome → State → Prop} {XC : String → State → State → Prop} {free : Addr → Prop} {Ts : List Cond} {own C : String} {b : Addr} {As rest : List Value} {g : JFrame}
theorem vx_runVX {hh : List (Nat × Nat × Nat × Nat)} (S : CallFix p m c cc nL s args Ts own) (hM : vx_Met l y ws rm Pc Qc XC mc ms free) (cw : vx_CVW R s args own C index y bytes maxL ret hh ws rm mc ms n) (hp : PreV s H C b Pc As)
    (hg : g.method = m) (hn : As.length = n) (hsize : g.locals.size = nL) (hstack : g.stack = As.reverse ++ .ref b :: rest) (hW : 2 * g.monitorRoom + (rest.map fun v => v.category).sum ≤ 8) (hdg : decode cc g.pc = .ok (.invokevirtual index, 3)) (hf : cells + mc ≤ R.cells ∧ slots + ms ≤ R.slots) :
    vx_Run p l e R s m args below meth c H locs cells slots mc ms g rest (Qc (Value.ref b :: As).toArray) XC free := by
  obtain ⟨⟨hrc, hrs, hfr, hlo, hws, hcw⟩, hcode, hini, hy, hlen, hl, hin, hse⟩ := cw
  have hK : vx_Back l R p e below s args y 3 8 (PreOf R mc ms Pc) (PostOf Qc mc ms free) (vx_Post XC mc ms free) := vx_backW (hh := hh) (bytes := bytes) (maxL := maxL) (ret := ret) hM hp.1 hrc hrs hfr hlo hws hcw (fun a' U hW => word_at hW (Or.inl (by first | rfl | simp [Cond.onTables, Cond.keeps, Cond.steady])) hini)
  obtain ⟨hx, hb, hml, ho, -⟩ := S
  obtain ⟨-, ⟨cellB, hcB, hoB, hclB⟩, hPc⟩ := hp
  intro T hT X
  rcases vx_callVX X hx (C := C) (hh := hh) (bytes := bytes) (maxL := maxL) (ret := ret) ho hl hin hse hcode hy hK (by rw [hT]; exact hcB) hoB hclB hg (hsize.trans hml.symm) (argsL := As) (rest := rest) (fun sig h => hn.trans (hlen sig h)) hstack hW (by rw [hb]; exact hdg)
    (fun vm₁ hW₁ => ⟨hf.1, hf.2, hPc (T.setVm vm₁) hT hW₁⟩) with ⟨v, vm₁, ⟨U', l2, c2, s2⟩, hW₁, X', ⟨g', mk, t, L, e1, e2, hq, h1, hL, h2, h3⟩, st⟩ | ⟨q, vm₁, ⟨U', l2, c2, s2⟩, hW₁, X', ⟨g', mk, t, L, E, ce, e1, e2, hq, hce, hcv, hcl, h1, hL, h2, h3⟩, st⟩
  · dsimp only [Pt.U, Pt.locs, Pt.cells, Pt.slots] at X' e1 e2 h1 h2 h3 st
    subst h1; subst h2; subst h3
    exact Or.inl ⟨v, (T.setVm vm₁).calling g' mk (Value.ref b :: As).toArray, t, U', L, hT, X', hL, e1, e2, hq, st⟩
  · dsimp only [Pt.U, Pt.locs, Pt.cells, Pt.slots] at X' e1 e2 h1 h2 h3 st hcl
    subst h1; subst h2; subst h3
    exact Or.inr ⟨q, (T.setVm vm₁).calling g' mk (Value.ref b :: As).toArray, t, U', L, E, ce, hT, X', hL, e1, e2, hq, hce, hcv, vx_cls hW₁ hcl, st⟩
theorem vx_runSX {hh : List (Nat × Nat × Nat × Nat)} (S : CallFix p m c cc nL s args Ts own) (hM : vx_Met l y ws rm Pc Qc XC mc ms free) (cw : vx_CSW R s args own index y bytes maxL ret hh ws rm mc ms n) (hp : PreS s H Pc As)
    (hg : g.method = m) (hn : As.length = n) (hsize : g.locals.size = nL) (hstack : g.stack = As.reverse ++ rest) (hW : 2 * g.monitorRoom + (rest.map fun v => v.category).sum ≤ 8) (hdg : decode cc g.pc = .ok (.invokestatic index, 3)) (hf : cells + mc ≤ R.cells ∧ slots + ms ≤ R.slots) :
    vx_Run p l e R s m args below meth c H locs cells slots mc ms g rest (Qc As.toArray) XC free := by
  obtain ⟨⟨hrc, hrs, hfr, hlo, hws, hcw⟩, hcode, hini, hy, hlen, hl, hstt⟩ := cw
  have hK : vx_Back l R p e below s args y 3 8 (PreOf R mc ms Pc) (PostOf Qc mc ms free) (vx_Post XC mc ms free) := vx_backW (hh := hh) (bytes := bytes) (maxL := maxL) (ret := ret) hM hp.1 hrc hrs hfr hlo hws hcw (fun a' U hW => word_at hW (Or.inl (by first | rfl | simp [Cond.onTables, Cond.keeps, Cond.steady])) hini)
  obtain ⟨hx, hb, hml, ho, -⟩ := S
  intro T hT X
  rcases vx_callSX X hx (hh := hh) (bytes := bytes) (maxL := maxL) (ret := ret) ho hl hstt hini hcode hy hK hg (hsize.trans hml.symm) (argsL := As) (rest := rest) (fun sig h => hn.trans (hlen sig h)) hstack hW (by rw [hb]; exact hdg)
    (fun vm₁ hW₁ => ⟨hf.1, hf.2, hp.2 (T.setVm vm₁) hT hW₁⟩) with ⟨v, vm₁, ⟨U', l2, c2, s2⟩, hW₁, X', ⟨g', mk, t, L, e1, e2, hq, h1, hL, h2, h3⟩, st⟩ | ⟨q, vm₁, ⟨U', l2, c2, s2⟩, hW₁, X', ⟨g', mk, t, L, E, ce, e1, e2, hq, hce, hcv, hcl, h1, hL, h2, h3⟩, st⟩
  · dsimp only [Pt.U, Pt.locs, Pt.cells, Pt.slots] at X' e1 e2 h1 h2 h3 st
    subst h1; subst h2; subst h3
    exact Or.inl ⟨v, (T.setVm vm₁).calling g' mk As.toArray, t, U', L, hT, X', hL, e1, e2, hq, st⟩
  · dsimp only [Pt.U, Pt.locs, Pt.cells, Pt.slots] at X' e1 e2 h1 h2 h3 st hcl
    subst h1; subst h2; subst h3
    exact Or.inr ⟨q, (T.setVm vm₁).calling g' mk As.toArray, t, U', L, E, ce, hT, X', hL, e1, e2, hq, hce, hcv, vx_cls hW₁ hcl, st⟩
end
end VXH
theorem vx_ofWH {l : Launch} {y : MethodName} {ws ws' : List Cond} {rm : Room} {Pc : Array Value → State → Prop} {Qc : Array Value → State → Outcome → State → Prop} {XC : String → State → State → Prop} {mc ms : Nat} {free : Addr → Prop} {cc : ByteArray} {maxL : Nat} {ret : Option FieldType} {hh : List (Nat × Nat × Nat × Nat)}
    (hy : plainName y.cls = true) (hw : ws = Cond.codeWith y cc maxL ret hh :: ws')
    (body : ∀ p e s m args below meth c s₁, BodyLoose p l y (headSpec ws rm) cc maxL ret e s m args below meth c s₁ → c.maxLocals = maxL → Pc args s →
      W p l e (headSpec ws rm).room s m args below meth c s.heap [] 0 0 (vx_MQ below Qc XC args s mc ms free) (entryFrame m args maxL)) : vx_Met l y ws rm Pc Qc XC mc ms free := by
  refine MetFree.of_bodyS (code := cc) (maxLocals := maxL) (ret := ret) hy ?_ ?_
  · intro args s m h hn
    obtain ⟨m9, meth, c, hn9, h1, h2, h3, h4, -, h5, h6, -⟩ := Cond.codeWith_spec (atoms_spec (ws := ws) h _ (by rw [hw]; exact List.mem_cons_self))
    cases hn.symm.trans hn9
    exact ⟨meth, c, h1, h2, h3, h4, h5, h6⟩
  · intro p e s m args below meth c s₁ B hml hP _
    have hh0 : s₁.heap = s.heap := by rw [B.state]; rfl
    obtain ⟨t, a1, o, b1, b2, b3⟩ := body p e s m args below meth c s₁ B hml hP s₁ hh0 (Stand.of_body B)
    exact ⟨t, o, a1, b1, b2, b3⟩
/-! ===== END ===== -/
end
section
theorem dX0_init_0 : decode cX0_init 0 = .ok (.aload_n 0, 1) := by decide +kernel
theorem dX0_init_1 : decode cX0_init 1 = .ok (.invokespecial 3, 3) := by decide +kernel
theorem dX0_init_4 : decode cX0_init 4 = .ok (.aload_n 0, 1) := by decide +kernel
theorem dX0_init_5 : decode cX0_init 5 = .ok (.iconst 0, 1) := by decide +kernel
theorem dX0_init_6 : decode cX0_init 6 = .ok (.putfield 9, 3) := by decide +kernel
theorem dX0_init_9 : decode cX0_init 9 = .ok (.aload_n 0, 1) := by decide +kernel
theorem dX0_init_10 : decode cX0_init 10 = .ok (.bipush 12, 2) := by decide +kernel
theorem dX0_init_12 : decode cX0_init 12 = .ok (.newarray .int, 2) := by decide +kernel
theorem dX0_init_14 : decode cX0_init 14 = .ok (.putfield 15, 3) := by decide +kernel
theorem dX0_init_17 : decode cX0_init 17 = .ok (.aload_n 0, 1) := by decide +kernel
theorem dX0_init_18 : decode cX0_init 18 = .ok (.bipush 12, 2) := by decide +kernel
theorem dX0_init_20 : decode cX0_init 20 = .ok (.newarray .int, 2) := by decide +kernel
theorem dX0_init_22 : decode cX0_init 22 = .ok (.putfield 19, 3) := by decide +kernel
theorem dX0_init_25 : decode cX0_init 25 = .ok (.aload_n 0, 1) := by decide +kernel
theorem dX0_init_26 : decode cX0_init 26 = .ok (.bipush 12, 2) := by decide +kernel
theorem dX0_init_28 : decode cX0_init 28 = .ok (.newarray .int, 2) := by decide +kernel
theorem dX0_init_30 : decode cX0_init 30 = .ok (.putfield 22, 3) := by decide +kernel
theorem dX0_init_33 : decode cX0_init 33 = .ok (.return_, 1) := by decide +kernel
theorem dX0_keep_0 : decode cX0_keep 0 = .ok (.aload_n 0, 1) := by decide +kernel
theorem dX0_keep_1 : decode cX0_keep 1 = .ok (.getfield 9, 3) := by decide +kernel
theorem dX0_keep_4 : decode cX0_keep 4 = .ok (.bipush 12, 2) := by decide +kernel
theorem dX0_keep_6 : decode cX0_keep 6 = .ok (.if_icmp .lt 34, 3) := by decide +kernel
theorem dX0_keep_9 : decode cX0_keep 9 = .ok (.aload_n 0, 1) := by decide +kernel
theorem dX0_keep_10 : decode cX0_keep 10 = .ok (.getfield 15, 3) := by decide +kernel
theorem dX0_keep_13 : decode cX0_keep 13 = .ok (.invokestatic 25, 3) := by decide +kernel
theorem dX0_keep_16 : decode cX0_keep 16 = .ok (.aload_n 0, 1) := by decide +kernel
theorem dX0_keep_17 : decode cX0_keep 17 = .ok (.getfield 19, 3) := by decide +kernel
theorem dX0_keep_20 : decode cX0_keep 20 = .ok (.invokestatic 25, 3) := by decide +kernel
theorem dX0_keep_23 : decode cX0_keep 23 = .ok (.aload_n 0, 1) := by decide +kernel
theorem dX0_keep_24 : decode cX0_keep 24 = .ok (.getfield 22, 3) := by decide +kernel
theorem dX0_keep_27 : decode cX0_keep 27 = .ok (.invokestatic 25, 3) := by decide +kernel
theorem dX0_keep_30 : decode cX0_keep 30 = .ok (.aload_n 0, 1) := by decide +kernel
theorem dX0_keep_31 : decode cX0_keep 31 = .ok (.dup, 1) := by decide +kernel
theorem dX0_keep_32 : decode cX0_keep 32 = .ok (.getfield 9, 3) := by decide +kernel
theorem dX0_keep_35 : decode cX0_keep 35 = .ok (.iconst 1, 1) := by decide +kernel
theorem dX0_keep_36 : decode cX0_keep 36 = .ok (.isub, 1) := by decide +kernel
theorem dX0_keep_37 : decode cX0_keep 37 = .ok (.putfield 9, 3) := by decide +kernel
theorem dX0_keep_40 : decode cX0_keep 40 = .ok (.aload_n 0, 1) := by decide +kernel
theorem dX0_keep_41 : decode cX0_keep 41 = .ok (.getfield 15, 3) := by decide +kernel
theorem dX0_keep_44 : decode cX0_keep 44 = .ok (.aload_n 0, 1) := by decide +kernel
theorem dX0_keep_45 : decode cX0_keep 45 = .ok (.getfield 9, 3) := by decide +kernel
theorem dX0_keep_48 : decode cX0_keep 48 = .ok (.iload_n 1, 1) := by decide +kernel
theorem dX0_keep_49 : decode cX0_keep 49 = .ok (.invokestatic 29, 3) := by decide +kernel
theorem dX0_keep_52 : decode cX0_keep 52 = .ok (.aload_n 0, 1) := by decide +kernel
theorem dX0_keep_53 : decode cX0_keep 53 = .ok (.getfield 19, 3) := by decide +kernel
theorem dX0_keep_56 : decode cX0_keep 56 = .ok (.aload_n 0, 1) := by decide +kernel
theorem dX0_keep_57 : decode cX0_keep 57 = .ok (.getfield 9, 3) := by decide +kernel
theorem dX0_keep_60 : decode cX0_keep 60 = .ok (.iload_n 2, 1) := by decide +kernel
theorem dX0_keep_61 : decode cX0_keep 61 = .ok (.invokestatic 29, 3) := by decide +kernel
theorem dX0_keep_64 : decode cX0_keep 64 = .ok (.aload_n 0, 1) := by decide +kernel
theorem dX0_keep_65 : decode cX0_keep 65 = .ok (.getfield 22, 3) := by decide +kernel
theorem dX0_keep_68 : decode cX0_keep 68 = .ok (.aload_n 0, 1) := by decide +kernel
theorem dX0_keep_69 : decode cX0_keep 69 = .ok (.getfield 9, 3) := by decide +kernel
theorem dX0_keep_72 : decode cX0_keep 72 = .ok (.iload_n 3, 1) := by decide +kernel
theorem dX0_keep_73 : decode cX0_keep 73 = .ok (.invokestatic 29, 3) := by decide +kernel
theorem dX0_keep_76 : decode cX0_keep 76 = .ok (.aload_n 0, 1) := by decide +kernel
theorem dX0_keep_77 : decode cX0_keep 77 = .ok (.dup, 1) := by decide +kernel
theorem dX0_keep_78 : decode cX0_keep 78 = .ok (.getfield 9, 3) := by decide +kernel
theorem dX0_keep_81 : decode cX0_keep 81 = .ok (.iconst 1, 1) := by decide +kernel
theorem dX0_keep_82 : decode cX0_keep 82 = .ok (.iadd, 1) := by decide +kernel
theorem dX0_keep_83 : decode cX0_keep 83 = .ok (.putfield 9, 3) := by decide +kernel
theorem dX0_keep_86 : decode cX0_keep 86 = .ok (.return_, 1) := by decide +kernel
theorem dX0_partsOn_0 : decode cX0_partsOn 0 = .ok (.iconst 0, 1) := by decide +kernel
theorem dX0_partsOn_1 : decode cX0_partsOn 1 = .ok (.istore_n 3, 1) := by decide +kernel
theorem dX0_partsOn_2 : decode cX0_partsOn 2 = .ok (.iconst 0, 1) := by decide +kernel
theorem dX0_partsOn_3 : decode cX0_partsOn 3 = .ok (.istore 4, 2) := by decide +kernel
theorem dX0_partsOn_5 : decode cX0_partsOn 5 = .ok (.iload 4, 2) := by decide +kernel
theorem dX0_partsOn_7 : decode cX0_partsOn 7 = .ok (.aload_n 0, 1) := by decide +kernel
theorem dX0_partsOn_8 : decode cX0_partsOn 8 = .ok (.getfield 9, 3) := by decide +kernel
theorem dX0_partsOn_11 : decode cX0_partsOn 11 = .ok (.if_icmp .ge 47, 3) := by decide +kernel
theorem dX0_partsOn_14 : decode cX0_partsOn 14 = .ok (.aload_n 0, 1) := by decide +kernel
theorem dX0_partsOn_15 : decode cX0_partsOn 15 = .ok (.getfield 15, 3) := by decide +kernel
theorem dX0_partsOn_18 : decode cX0_partsOn 18 = .ok (.iload 4, 2) := by decide +kernel
theorem dX0_partsOn_20 : decode cX0_partsOn 20 = .ok (.invokestatic 33, 3) := by decide +kernel
theorem dX0_partsOn_23 : decode cX0_partsOn 23 = .ok (.iload_n 2, 1) := by decide +kernel
theorem dX0_partsOn_24 : decode cX0_partsOn 24 = .ok (.if_icmp .ne 28, 3) := by decide +kernel
theorem dX0_partsOn_27 : decode cX0_partsOn 27 = .ok (.iload_n 1, 1) := by decide +kernel
theorem dX0_partsOn_28 : decode cX0_partsOn 28 = .ok (.aload_n 0, 1) := by decide +kernel
theorem dX0_partsOn_29 : decode cX0_partsOn 29 = .ok (.getfield 22, 3) := by decide +kernel
theorem dX0_partsOn_32 : decode cX0_partsOn 32 = .ok (.iload 4, 2) := by decide +kernel
theorem dX0_partsOn_34 : decode cX0_partsOn 34 = .ok (.invokestatic 33, 3) := by decide +kernel
theorem dX0_partsOn_37 : decode cX0_partsOn 37 = .ok (.if_icmp .gt 15, 3) := by decide +kernel
theorem dX0_partsOn_40 : decode cX0_partsOn 40 = .ok (.iload_n 3, 1) := by decide +kernel
theorem dX0_partsOn_41 : decode cX0_partsOn 41 = .ok (.aload_n 0, 1) := by decide +kernel
theorem dX0_partsOn_42 : decode cX0_partsOn 42 = .ok (.getfield 19, 3) := by decide +kernel
theorem dX0_partsOn_45 : decode cX0_partsOn 45 = .ok (.iload 4, 2) := by decide +kernel
theorem dX0_partsOn_47 : decode cX0_partsOn 47 = .ok (.invokestatic 33, 3) := by decide +kernel
theorem dX0_partsOn_50 : decode cX0_partsOn 50 = .ok (.ior, 1) := by decide +kernel
theorem dX0_partsOn_51 : decode cX0_partsOn 51 = .ok (.istore_n 3, 1) := by decide +kernel
theorem dX0_partsOn_52 : decode cX0_partsOn 52 = .ok (.iinc 4 1, 3) := by decide +kernel
theorem dX0_partsOn_55 : decode cX0_partsOn 55 = .ok (.goto (-50), 3) := by decide +kernel
theorem dX0_partsOn_58 : decode cX0_partsOn 58 = .ok (.iload_n 3, 1) := by decide +kernel
theorem dX0_partsOn_59 : decode cX0_partsOn 59 = .ok (.ireturn, 1) := by decide +kernel
theorem dX0_lastDayFor_0 : decode cX0_lastDayFor 0 = .ok (.iconst (-1), 1) := by decide +kernel
theorem dX0_lastDayFor_1 : decode cX0_lastDayFor 1 = .ok (.istore_n 3, 1) := by decide +kernel
theorem dX0_lastDayFor_2 : decode cX0_lastDayFor 2 = .ok (.iconst 0, 1) := by decide +kernel
theorem dX0_lastDayFor_3 : decode cX0_lastDayFor 3 = .ok (.istore 4, 2) := by decide +kernel
theorem dX0_lastDayFor_5 : decode cX0_lastDayFor 5 = .ok (.iload 4, 2) := by decide +kernel
theorem dX0_lastDayFor_7 : decode cX0_lastDayFor 7 = .ok (.aload_n 0, 1) := by decide +kernel
theorem dX0_lastDayFor_8 : decode cX0_lastDayFor 8 = .ok (.getfield 9, 3) := by decide +kernel
theorem dX0_lastDayFor_11 : decode cX0_lastDayFor 11 = .ok (.if_icmp .ge 48, 3) := by decide +kernel
theorem dX0_lastDayFor_14 : decode cX0_lastDayFor 14 = .ok (.aload_n 0, 1) := by decide +kernel
theorem dX0_lastDayFor_15 : decode cX0_lastDayFor 15 = .ok (.getfield 22, 3) := by decide +kernel
theorem dX0_lastDayFor_18 : decode cX0_lastDayFor 18 = .ok (.iload 4, 2) := by decide +kernel
theorem dX0_lastDayFor_20 : decode cX0_lastDayFor 20 = .ok (.invokestatic 33, 3) := by decide +kernel
theorem dX0_lastDayFor_23 : decode cX0_lastDayFor 23 = .ok (.istore 5, 2) := by decide +kernel
theorem dX0_lastDayFor_25 : decode cX0_lastDayFor 25 = .ok (.aload_n 0, 1) := by decide +kernel
theorem dX0_lastDayFor_26 : decode cX0_lastDayFor 26 = .ok (.getfield 15, 3) := by decide +kernel
theorem dX0_lastDayFor_29 : decode cX0_lastDayFor 29 = .ok (.iload 4, 2) := by decide +kernel
theorem dX0_lastDayFor_31 : decode cX0_lastDayFor 31 = .ok (.invokestatic 33, 3) := by decide +kernel
theorem dX0_lastDayFor_34 : decode cX0_lastDayFor 34 = .ok (.iload_n 2, 1) := by decide +kernel
theorem dX0_lastDayFor_35 : decode cX0_lastDayFor 35 = .ok (.if_icmp .ne 18, 3) := by decide +kernel
theorem dX0_lastDayFor_38 : decode cX0_lastDayFor 38 = .ok (.iload_n 1, 1) := by decide +kernel
theorem dX0_lastDayFor_39 : decode cX0_lastDayFor 39 = .ok (.iload 5, 2) := by decide +kernel
theorem dX0_lastDayFor_41 : decode cX0_lastDayFor 41 = .ok (.if_icmp .gt 12, 3) := by decide +kernel
theorem dX0_lastDayFor_44 : decode cX0_lastDayFor 44 = .ok (.iload 5, 2) := by decide +kernel
theorem dX0_lastDayFor_46 : decode cX0_lastDayFor 46 = .ok (.iload_n 3, 1) := by decide +kernel
theorem dX0_lastDayFor_47 : decode cX0_lastDayFor 47 = .ok (.if_icmp .le 6, 3) := by decide +kernel
theorem dX0_lastDayFor_50 : decode cX0_lastDayFor 50 = .ok (.iload 5, 2) := by decide +kernel
theorem dX0_lastDayFor_52 : decode cX0_lastDayFor 52 = .ok (.istore_n 3, 1) := by decide +kernel
theorem dX0_lastDayFor_53 : decode cX0_lastDayFor 53 = .ok (.iinc 4 1, 3) := by decide +kernel
theorem dX0_lastDayFor_56 : decode cX0_lastDayFor 56 = .ok (.goto (-51), 3) := by decide +kernel
theorem dX0_lastDayFor_59 : decode cX0_lastDayFor 59 = .ok (.iload_n 3, 1) := by decide +kernel
theorem dX0_lastDayFor_60 : decode cX0_lastDayFor 60 = .ok (.ireturn, 1) := by decide +kernel
theorem dX0_copyFrom_0 : decode cX0_copyFrom 0 = .ok (.aload_n 1, 1) := by decide +kernel
theorem dX0_copyFrom_1 : decode cX0_copyFrom 1 = .ok (.ifnonnull 4, 3) := by decide +kernel
theorem dX0_copyFrom_4 : decode cX0_copyFrom 4 = .ok (.return_, 1) := by decide +kernel
theorem dX0_copyFrom_5 : decode cX0_copyFrom 5 = .ok (.aload_n 0, 1) := by decide +kernel
theorem dX0_copyFrom_6 : decode cX0_copyFrom 6 = .ok (.aload_n 1, 1) := by decide +kernel
theorem dX0_copyFrom_7 : decode cX0_copyFrom 7 = .ok (.getfield 9, 3) := by decide +kernel
theorem dX0_copyFrom_10 : decode cX0_copyFrom 10 = .ok (.putfield 9, 3) := by decide +kernel
theorem dX0_copyFrom_13 : decode cX0_copyFrom 13 = .ok (.aload_n 1, 1) := by decide +kernel
theorem dX0_copyFrom_14 : decode cX0_copyFrom 14 = .ok (.getfield 15, 3) := by decide +kernel
theorem dX0_copyFrom_17 : decode cX0_copyFrom 17 = .ok (.aload_n 0, 1) := by decide +kernel
theorem dX0_copyFrom_18 : decode cX0_copyFrom 18 = .ok (.getfield 15, 3) := by decide +kernel
theorem dX0_copyFrom_21 : decode cX0_copyFrom 21 = .ok (.invokestatic 37, 3) := by decide +kernel
theorem dX0_copyFrom_24 : decode cX0_copyFrom 24 = .ok (.aload_n 1, 1) := by decide +kernel
theorem dX0_copyFrom_25 : decode cX0_copyFrom 25 = .ok (.getfield 19, 3) := by decide +kernel
theorem dX0_copyFrom_28 : decode cX0_copyFrom 28 = .ok (.aload_n 0, 1) := by decide +kernel
theorem dX0_copyFrom_29 : decode cX0_copyFrom 29 = .ok (.getfield 19, 3) := by decide +kernel
theorem dX0_copyFrom_32 : decode cX0_copyFrom 32 = .ok (.invokestatic 37, 3) := by decide +kernel
theorem dX0_copyFrom_35 : decode cX0_copyFrom 35 = .ok (.aload_n 1, 1) := by decide +kernel
theorem dX0_copyFrom_36 : decode cX0_copyFrom 36 = .ok (.getfield 22, 3) := by decide +kernel
theorem dX0_copyFrom_39 : decode cX0_copyFrom 39 = .ok (.aload_n 0, 1) := by decide +kernel
theorem dX0_copyFrom_40 : decode cX0_copyFrom 40 = .ok (.getfield 22, 3) := by decide +kernel
theorem dX0_copyFrom_43 : decode cX0_copyFrom 43 = .ok (.invokestatic 37, 3) := by decide +kernel
theorem dX0_copyFrom_46 : decode cX0_copyFrom 46 = .ok (.return_, 1) := by decide +kernel
theorem dX1_init_0 : decode cX1_init 0 = .ok (.aload_n 0, 1) := by decide +kernel
theorem dX1_init_1 : decode cX1_init 1 = .ok (.invokespecial 3, 3) := by decide +kernel
theorem dX1_init_4 : decode cX1_init 4 = .ok (.aload_n 0, 1) := by decide +kernel
theorem dX1_init_5 : decode cX1_init 5 = .ok (.iconst 0, 1) := by decide +kernel
theorem dX1_init_6 : decode cX1_init 6 = .ok (.putfield 9, 3) := by decide +kernel
theorem dX1_init_9 : decode cX1_init 9 = .ok (.aload_n 0, 1) := by decide +kernel
theorem dX1_init_10 : decode cX1_init 10 = .ok (.bipush 60, 2) := by decide +kernel
theorem dX1_init_12 : decode cX1_init 12 = .ok (.newarray .int, 2) := by decide +kernel
theorem dX1_init_14 : decode cX1_init 14 = .ok (.putfield 15, 3) := by decide +kernel
theorem dX1_init_17 : decode cX1_init 17 = .ok (.return_, 1) := by decide +kernel
theorem dX1_add_0 : decode cX1_add 0 = .ok (.aload_n 0, 1) := by decide +kernel
theorem dX1_add_1 : decode cX1_add 1 = .ok (.getfield 15, 3) := by decide +kernel
theorem dX1_add_4 : decode cX1_add 4 = .ok (.aload_n 0, 1) := by decide +kernel
theorem dX1_add_5 : decode cX1_add 5 = .ok (.getfield 9, 3) := by decide +kernel
theorem dX1_add_8 : decode cX1_add 8 = .ok (.iload_n 1, 1) := by decide +kernel
theorem dX1_add_9 : decode cX1_add 9 = .ok (.invokestatic 19, 3) := by decide +kernel
theorem dX1_add_12 : decode cX1_add 12 = .ok (.aload_n 0, 1) := by decide +kernel
theorem dX1_add_13 : decode cX1_add 13 = .ok (.dup, 1) := by decide +kernel
theorem dX1_add_14 : decode cX1_add 14 = .ok (.getfield 9, 3) := by decide +kernel
theorem dX1_add_17 : decode cX1_add 17 = .ok (.iconst 1, 1) := by decide +kernel
theorem dX1_add_18 : decode cX1_add 18 = .ok (.iadd, 1) := by decide +kernel
theorem dX1_add_19 : decode cX1_add 19 = .ok (.putfield 9, 3) := by decide +kernel
theorem dX1_add_22 : decode cX1_add 22 = .ok (.return_, 1) := by decide +kernel
theorem dX1_makeEmpty_0 : decode cX1_makeEmpty 0 = .ok (.aload_n 0, 1) := by decide +kernel
theorem dX1_makeEmpty_1 : decode cX1_makeEmpty 1 = .ok (.iconst 0, 1) := by decide +kernel
theorem dX1_makeEmpty_2 : decode cX1_makeEmpty 2 = .ok (.putfield 9, 3) := by decide +kernel
theorem dX1_makeEmpty_5 : decode cX1_makeEmpty 5 = .ok (.return_, 1) := by decide +kernel
theorem dX1_codeAt_0 : decode cX1_codeAt 0 = .ok (.aload_n 0, 1) := by decide +kernel
theorem dX1_codeAt_1 : decode cX1_codeAt 1 = .ok (.getfield 15, 3) := by decide +kernel
theorem dX1_codeAt_4 : decode cX1_codeAt 4 = .ok (.iload_n 1, 1) := by decide +kernel
theorem dX1_codeAt_5 : decode cX1_codeAt 5 = .ok (.invokestatic 23, 3) := by decide +kernel
theorem dX1_codeAt_8 : decode cX1_codeAt 8 = .ok (.ireturn, 1) := by decide +kernel
theorem dX1_digitAt_0 : decode cX1_digitAt 0 = .ok (.aload_n 0, 1) := by decide +kernel
theorem dX1_digitAt_1 : decode cX1_digitAt 1 = .ok (.iload_n 1, 1) := by decide +kernel
theorem dX1_digitAt_2 : decode cX1_digitAt 2 = .ok (.invokevirtual 27, 3) := by decide +kernel
theorem dX1_digitAt_5 : decode cX1_digitAt 5 = .ok (.bipush 48, 2) := by decide +kernel
theorem dX1_digitAt_7 : decode cX1_digitAt 7 = .ok (.isub, 1) := by decide +kernel
theorem dX1_digitAt_8 : decode cX1_digitAt 8 = .ok (.ireturn, 1) := by decide +kernel
theorem dX1_hasDigitAt_0 : decode cX1_hasDigitAt 0 = .ok (.iload_n 1, 1) := by decide +kernel
theorem dX1_hasDigitAt_1 : decode cX1_hasDigitAt 1 = .ok (.aload_n 0, 1) := by decide +kernel
theorem dX1_hasDigitAt_2 : decode cX1_hasDigitAt 2 = .ok (.getfield 9, 3) := by decide +kernel
theorem dX1_hasDigitAt_5 : decode cX1_hasDigitAt 5 = .ok (.if_icmp .ge 22, 3) := by decide +kernel
theorem dX1_hasDigitAt_8 : decode cX1_hasDigitAt 8 = .ok (.aload_n 0, 1) := by decide +kernel
theorem dX1_hasDigitAt_9 : decode cX1_hasDigitAt 9 = .ok (.iload_n 1, 1) := by decide +kernel
theorem dX1_hasDigitAt_10 : decode cX1_hasDigitAt 10 = .ok (.invokevirtual 27, 3) := by decide +kernel
theorem dX1_hasDigitAt_13 : decode cX1_hasDigitAt 13 = .ok (.bipush 48, 2) := by decide +kernel
theorem dX1_hasDigitAt_15 : decode cX1_hasDigitAt 15 = .ok (.bipush 57, 2) := by decide +kernel
theorem dX1_hasDigitAt_17 : decode cX1_hasDigitAt 17 = .ok (.invokestatic 31, 3) := by decide +kernel
theorem dX1_hasDigitAt_20 : decode cX1_hasDigitAt 20 = .ok (.ifCond .eq 7, 3) := by decide +kernel
theorem dX1_hasDigitAt_23 : decode cX1_hasDigitAt 23 = .ok (.iconst 1, 1) := by decide +kernel
theorem dX1_hasDigitAt_24 : decode cX1_hasDigitAt 24 = .ok (.goto 4, 3) := by decide +kernel
theorem dX1_hasDigitAt_27 : decode cX1_hasDigitAt 27 = .ok (.iconst 0, 1) := by decide +kernel
theorem dX1_hasDigitAt_28 : decode cX1_hasDigitAt 28 = .ok (.ireturn, 1) := by decide +kernel
theorem dX1_daysAt_0 : decode cX1_daysAt 0 = .ok (.aload_n 0, 1) := by decide +kernel
theorem dX1_daysAt_1 : decode cX1_daysAt 1 = .ok (.iload_n 1, 1) := by decide +kernel
theorem dX1_daysAt_2 : decode cX1_daysAt 2 = .ok (.iconst 1, 1) := by decide +kernel
theorem dX1_daysAt_3 : decode cX1_daysAt 3 = .ok (.iadd, 1) := by decide +kernel
theorem dX1_daysAt_4 : decode cX1_daysAt 4 = .ok (.invokevirtual 35, 3) := by decide +kernel
theorem dX1_daysAt_7 : decode cX1_daysAt 7 = .ok (.ifCond .eq 22, 3) := by decide +kernel
theorem dX1_daysAt_10 : decode cX1_daysAt 10 = .ok (.bipush 10, 2) := by decide +kernel
theorem dX1_daysAt_12 : decode cX1_daysAt 12 = .ok (.aload_n 0, 1) := by decide +kernel
theorem dX1_daysAt_13 : decode cX1_daysAt 13 = .ok (.iload_n 1, 1) := by decide +kernel
theorem dX1_daysAt_14 : decode cX1_daysAt 14 = .ok (.invokevirtual 39, 3) := by decide +kernel
theorem dX1_daysAt_17 : decode cX1_daysAt 17 = .ok (.imul, 1) := by decide +kernel
theorem dX1_daysAt_18 : decode cX1_daysAt 18 = .ok (.aload_n 0, 1) := by decide +kernel
theorem dX1_daysAt_19 : decode cX1_daysAt 19 = .ok (.iload_n 1, 1) := by decide +kernel
theorem dX1_daysAt_20 : decode cX1_daysAt 20 = .ok (.iconst 1, 1) := by decide +kernel
theorem dX1_daysAt_21 : decode cX1_daysAt 21 = .ok (.iadd, 1) := by decide +kernel
theorem dX1_daysAt_22 : decode cX1_daysAt 22 = .ok (.invokevirtual 39, 3) := by decide +kernel
theorem dX1_daysAt_25 : decode cX1_daysAt 25 = .ok (.iadd, 1) := by decide +kernel
theorem dX1_daysAt_26 : decode cX1_daysAt 26 = .ok (.goto 8, 3) := by decide +kernel
theorem dX1_daysAt_29 : decode cX1_daysAt 29 = .ok (.aload_n 0, 1) := by decide +kernel
theorem dX1_daysAt_30 : decode cX1_daysAt 30 = .ok (.iload_n 1, 1) := by decide +kernel
theorem dX1_daysAt_31 : decode cX1_daysAt 31 = .ok (.invokevirtual 39, 3) := by decide +kernel
theorem dX1_daysAt_34 : decode cX1_daysAt 34 = .ok (.ireturn, 1) := by decide +kernel
theorem dX1_isPartStart_0 : decode cX1_isPartStart 0 = .ok (.iload_n 1, 1) := by decide +kernel
theorem dX1_isPartStart_1 : decode cX1_isPartStart 1 = .ok (.ifCond .eq 15, 3) := by decide +kernel
theorem dX1_isPartStart_4 : decode cX1_isPartStart 4 = .ok (.aload_n 0, 1) := by decide +kernel
theorem dX1_isPartStart_5 : decode cX1_isPartStart 5 = .ok (.iload_n 1, 1) := by decide +kernel
theorem dX1_isPartStart_6 : decode cX1_isPartStart 6 = .ok (.iconst 1, 1) := by decide +kernel
theorem dX1_isPartStart_7 : decode cX1_isPartStart 7 = .ok (.isub, 1) := by decide +kernel
theorem dX1_isPartStart_8 : decode cX1_isPartStart 8 = .ok (.invokevirtual 27, 3) := by decide +kernel
theorem dX1_isPartStart_11 : decode cX1_isPartStart 11 = .ok (.bipush 59, 2) := by decide +kernel
theorem dX1_isPartStart_13 : decode cX1_isPartStart 13 = .ok (.if_icmp .ne 7, 3) := by decide +kernel
theorem dX1_isPartStart_16 : decode cX1_isPartStart 16 = .ok (.iconst 1, 1) := by decide +kernel
theorem dX1_isPartStart_17 : decode cX1_isPartStart 17 = .ok (.goto 4, 3) := by decide +kernel
theorem dX1_isPartStart_20 : decode cX1_isPartStart 20 = .ok (.iconst 0, 1) := by decide +kernel
theorem dX1_isPartStart_21 : decode cX1_isPartStart 21 = .ok (.ireturn, 1) := by decide +kernel
theorem dX1_errorPlace_0 : decode cX1_errorPlace 0 = .ok (.iconst 0, 1) := by decide +kernel
theorem dX1_errorPlace_1 : decode cX1_errorPlace 1 = .ok (.istore_n 1, 1) := by decide +kernel
theorem dX1_errorPlace_2 : decode cX1_errorPlace 2 = .ok (.iconst 0, 1) := by decide +kernel
theorem dX1_errorPlace_3 : decode cX1_errorPlace 3 = .ok (.istore_n 2, 1) := by decide +kernel
theorem dX1_errorPlace_4 : decode cX1_errorPlace 4 = .ok (.iload_n 2, 1) := by decide +kernel
theorem dX1_errorPlace_5 : decode cX1_errorPlace 5 = .ok (.aload_n 0, 1) := by decide +kernel
theorem dX1_errorPlace_6 : decode cX1_errorPlace 6 = .ok (.getfield 9, 3) := by decide +kernel
theorem dX1_errorPlace_9 : decode cX1_errorPlace 9 = .ok (.if_icmp .ge 26, 3) := by decide +kernel
theorem dX1_errorPlace_12 : decode cX1_errorPlace 12 = .ok (.iload_n 1, 1) := by decide +kernel
theorem dX1_errorPlace_13 : decode cX1_errorPlace 13 = .ok (.aload_n 0, 1) := by decide +kernel
theorem dX1_errorPlace_14 : decode cX1_errorPlace 14 = .ok (.iload_n 2, 1) := by decide +kernel
theorem dX1_errorPlace_15 : decode cX1_errorPlace 15 = .ok (.invokevirtual 27, 3) := by decide +kernel
theorem dX1_errorPlace_18 : decode cX1_errorPlace 18 = .ok (.invokestatic 42, 3) := by decide +kernel
theorem dX1_errorPlace_21 : decode cX1_errorPlace 21 = .ok (.istore_n 1, 1) := by decide +kernel
theorem dX1_errorPlace_22 : decode cX1_errorPlace 22 = .ok (.iload_n 1, 1) := by decide +kernel
theorem dX1_errorPlace_23 : decode cX1_errorPlace 23 = .ok (.iconst (-1), 1) := by decide +kernel
theorem dX1_errorPlace_24 : decode cX1_errorPlace 24 = .ok (.if_icmp .ne 5, 3) := by decide +kernel
theorem dX1_errorPlace_27 : decode cX1_errorPlace 27 = .ok (.iload_n 2, 1) := by decide +kernel
theorem dX1_errorPlace_28 : decode cX1_errorPlace 28 = .ok (.ireturn, 1) := by decide +kernel
theorem dX1_errorPlace_29 : decode cX1_errorPlace 29 = .ok (.iinc 2 1, 3) := by decide +kernel
theorem dX1_errorPlace_32 : decode cX1_errorPlace 32 = .ok (.goto (-28), 3) := by decide +kernel
theorem dX1_errorPlace_35 : decode cX1_errorPlace 35 = .ok (.aload_n 0, 1) := by decide +kernel
theorem dX1_errorPlace_36 : decode cX1_errorPlace 36 = .ok (.getfield 9, 3) := by decide +kernel
theorem dX1_errorPlace_39 : decode cX1_errorPlace 39 = .ok (.ireturn, 1) := by decide +kernel
theorem dX1_isComplete_0 : decode cX1_isComplete 0 = .ok (.iconst 0, 1) := by decide +kernel
theorem dX1_isComplete_1 : decode cX1_isComplete 1 = .ok (.istore_n 1, 1) := by decide +kernel
theorem dX1_isComplete_2 : decode cX1_isComplete 2 = .ok (.iconst 0, 1) := by decide +kernel
theorem dX1_isComplete_3 : decode cX1_isComplete 3 = .ok (.istore_n 2, 1) := by decide +kernel
theorem dX1_isComplete_4 : decode cX1_isComplete 4 = .ok (.iload_n 2, 1) := by decide +kernel
theorem dX1_isComplete_5 : decode cX1_isComplete 5 = .ok (.aload_n 0, 1) := by decide +kernel
theorem dX1_isComplete_6 : decode cX1_isComplete 6 = .ok (.getfield 9, 3) := by decide +kernel
theorem dX1_isComplete_9 : decode cX1_isComplete 9 = .ok (.if_icmp .ge 19, 3) := by decide +kernel
theorem dX1_isComplete_12 : decode cX1_isComplete 12 = .ok (.iload_n 1, 1) := by decide +kernel
theorem dX1_isComplete_13 : decode cX1_isComplete 13 = .ok (.aload_n 0, 1) := by decide +kernel
theorem dX1_isComplete_14 : decode cX1_isComplete 14 = .ok (.iload_n 2, 1) := by decide +kernel
theorem dX1_isComplete_15 : decode cX1_isComplete 15 = .ok (.invokevirtual 27, 3) := by decide +kernel
theorem dX1_isComplete_18 : decode cX1_isComplete 18 = .ok (.invokestatic 42, 3) := by decide +kernel
theorem dX1_isComplete_21 : decode cX1_isComplete 21 = .ok (.istore_n 1, 1) := by decide +kernel
theorem dX1_isComplete_22 : decode cX1_isComplete 22 = .ok (.iinc 2 1, 3) := by decide +kernel
theorem dX1_isComplete_25 : decode cX1_isComplete 25 = .ok (.goto (-21), 3) := by decide +kernel
theorem dX1_isComplete_28 : decode cX1_isComplete 28 = .ok (.iload_n 1, 1) := by decide +kernel
theorem dX1_isComplete_29 : decode cX1_isComplete 29 = .ok (.bipush 8, 2) := by decide +kernel
theorem dX1_isComplete_31 : decode cX1_isComplete 31 = .ok (.if_icmp .eq 8, 3) := by decide +kernel
theorem dX1_isComplete_34 : decode cX1_isComplete 34 = .ok (.iload_n 1, 1) := by decide +kernel
theorem dX1_isComplete_35 : decode cX1_isComplete 35 = .ok (.iconst 5, 1) := by decide +kernel
theorem dX1_isComplete_36 : decode cX1_isComplete 36 = .ok (.if_icmp .ne 7, 3) := by decide +kernel
theorem dX1_isComplete_39 : decode cX1_isComplete 39 = .ok (.iconst 1, 1) := by decide +kernel
theorem dX1_isComplete_40 : decode cX1_isComplete 40 = .ok (.goto 4, 3) := by decide +kernel
theorem dX1_isComplete_43 : decode cX1_isComplete 43 = .ok (.iconst 0, 1) := by decide +kernel
theorem dX1_isComplete_44 : decode cX1_isComplete 44 = .ok (.ireturn, 1) := by decide +kernel
theorem dX1_placeAfter_0 : decode cX1_placeAfter 0 = .ok (.iload_n 0, 1) := by decide +kernel
theorem dX1_placeAfter_1 : decode cX1_placeAfter 1 = .ok (.tableswitch 182 0 8 #[51, 56, 68, 85, 103, 120, 141, 159, 177], 51) := by decide +kernel
theorem dX1_placeAfter_52 : decode cX1_placeAfter 52 = .ok (.iload_n 1, 1) := by decide +kernel
theorem dX1_placeAfter_53 : decode cX1_placeAfter 53 = .ok (.invokestatic 46, 3) := by decide +kernel
theorem dX1_placeAfter_56 : decode cX1_placeAfter 56 = .ok (.ireturn, 1) := by decide +kernel
theorem dX1_placeAfter_57 : decode cX1_placeAfter 57 = .ok (.iload_n 1, 1) := by decide +kernel
theorem dX1_placeAfter_58 : decode cX1_placeAfter 58 = .ok (.bipush 114, 2) := by decide +kernel
theorem dX1_placeAfter_60 : decode cX1_placeAfter 60 = .ok (.if_icmp .ne 7, 3) := by decide +kernel
theorem dX1_placeAfter_63 : decode cX1_placeAfter 63 = .ok (.iconst 2, 1) := by decide +kernel
theorem dX1_placeAfter_64 : decode cX1_placeAfter 64 = .ok (.goto 4, 3) := by decide +kernel
theorem dX1_placeAfter_67 : decode cX1_placeAfter 67 = .ok (.iconst (-1), 1) := by decide +kernel
theorem dX1_placeAfter_68 : decode cX1_placeAfter 68 = .ok (.ireturn, 1) := by decide +kernel
theorem dX1_placeAfter_69 : decode cX1_placeAfter 69 = .ok (.iload_n 1, 1) := by decide +kernel
theorem dX1_placeAfter_70 : decode cX1_placeAfter 70 = .ok (.bipush 48, 2) := by decide +kernel
theorem dX1_placeAfter_72 : decode cX1_placeAfter 72 = .ok (.bipush 53, 2) := by decide +kernel
theorem dX1_placeAfter_74 : decode cX1_placeAfter 74 = .ok (.invokestatic 31, 3) := by decide +kernel
theorem dX1_placeAfter_77 : decode cX1_placeAfter 77 = .ok (.ifCond .eq 7, 3) := by decide +kernel
theorem dX1_placeAfter_80 : decode cX1_placeAfter 80 = .ok (.iconst 3, 1) := by decide +kernel
theorem dX1_placeAfter_81 : decode cX1_placeAfter 81 = .ok (.goto 4, 3) := by decide +kernel
theorem dX1_placeAfter_84 : decode cX1_placeAfter 84 = .ok (.iconst (-1), 1) := by decide +kernel
theorem dX1_placeAfter_85 : decode cX1_placeAfter 85 = .ok (.ireturn, 1) := by decide +kernel
theorem dX1_placeAfter_86 : decode cX1_placeAfter 86 = .ok (.iload_n 1, 1) := by decide +kernel
theorem dX1_placeAfter_87 : decode cX1_placeAfter 87 = .ok (.bipush 49, 2) := by decide +kernel
theorem dX1_placeAfter_89 : decode cX1_placeAfter 89 = .ok (.bipush 53, 2) := by decide +kernel
theorem dX1_placeAfter_91 : decode cX1_placeAfter 91 = .ok (.invokestatic 31, 3) := by decide +kernel
theorem dX1_placeAfter_94 : decode cX1_placeAfter 94 = .ok (.ifCond .eq 8, 3) := by decide +kernel
theorem dX1_placeAfter_97 : decode cX1_placeAfter 97 = .ok (.bipush 8, 2) := by decide +kernel
theorem dX1_placeAfter_99 : decode cX1_placeAfter 99 = .ok (.goto 4, 3) := by decide +kernel
theorem dX1_placeAfter_102 : decode cX1_placeAfter 102 = .ok (.iconst (-1), 1) := by decide +kernel
theorem dX1_placeAfter_103 : decode cX1_placeAfter 103 = .ok (.ireturn, 1) := by decide +kernel
theorem dX1_placeAfter_104 : decode cX1_placeAfter 104 = .ok (.iload_n 1, 1) := by decide +kernel
theorem dX1_placeAfter_105 : decode cX1_placeAfter 105 = .ok (.bipush 49, 2) := by decide +kernel
theorem dX1_placeAfter_107 : decode cX1_placeAfter 107 = .ok (.bipush 57, 2) := by decide +kernel
theorem dX1_placeAfter_109 : decode cX1_placeAfter 109 = .ok (.invokestatic 31, 3) := by decide +kernel
theorem dX1_placeAfter_112 : decode cX1_placeAfter 112 = .ok (.ifCond .eq 7, 3) := by decide +kernel
theorem dX1_placeAfter_115 : decode cX1_placeAfter 115 = .ok (.iconst 5, 1) := by decide +kernel
theorem dX1_placeAfter_116 : decode cX1_placeAfter 116 = .ok (.goto 4, 3) := by decide +kernel
theorem dX1_placeAfter_119 : decode cX1_placeAfter 119 = .ok (.iconst (-1), 1) := by decide +kernel
theorem dX1_placeAfter_120 : decode cX1_placeAfter 120 = .ok (.ireturn, 1) := by decide +kernel
theorem dX1_placeAfter_121 : decode cX1_placeAfter 121 = .ok (.iload_n 1, 1) := by decide +kernel
theorem dX1_placeAfter_122 : decode cX1_placeAfter 122 = .ok (.bipush 48, 2) := by decide +kernel
theorem dX1_placeAfter_124 : decode cX1_placeAfter 124 = .ok (.bipush 57, 2) := by decide +kernel
theorem dX1_placeAfter_126 : decode cX1_placeAfter 126 = .ok (.invokestatic 31, 3) := by decide +kernel
theorem dX1_placeAfter_129 : decode cX1_placeAfter 129 = .ok (.ifCond .eq 8, 3) := by decide +kernel
theorem dX1_placeAfter_132 : decode cX1_placeAfter 132 = .ok (.bipush 8, 2) := by decide +kernel
theorem dX1_placeAfter_134 : decode cX1_placeAfter 134 = .ok (.goto 7, 3) := by decide +kernel
theorem dX1_placeAfter_137 : decode cX1_placeAfter 137 = .ok (.iload_n 1, 1) := by decide +kernel
theorem dX1_placeAfter_138 : decode cX1_placeAfter 138 = .ok (.invokestatic 49, 3) := by decide +kernel
theorem dX1_placeAfter_141 : decode cX1_placeAfter 141 = .ok (.ireturn, 1) := by decide +kernel
theorem dX1_placeAfter_142 : decode cX1_placeAfter 142 = .ok (.iload_n 1, 1) := by decide +kernel
theorem dX1_placeAfter_143 : decode cX1_placeAfter 143 = .ok (.bipush 48, 2) := by decide +kernel
theorem dX1_placeAfter_145 : decode cX1_placeAfter 145 = .ok (.bipush 57, 2) := by decide +kernel
theorem dX1_placeAfter_147 : decode cX1_placeAfter 147 = .ok (.invokestatic 31, 3) := by decide +kernel
theorem dX1_placeAfter_150 : decode cX1_placeAfter 150 = .ok (.ifCond .eq 8, 3) := by decide +kernel
theorem dX1_placeAfter_153 : decode cX1_placeAfter 153 = .ok (.bipush 7, 2) := by decide +kernel
theorem dX1_placeAfter_155 : decode cX1_placeAfter 155 = .ok (.goto 4, 3) := by decide +kernel
theorem dX1_placeAfter_158 : decode cX1_placeAfter 158 = .ok (.iconst (-1), 1) := by decide +kernel
theorem dX1_placeAfter_159 : decode cX1_placeAfter 159 = .ok (.ireturn, 1) := by decide +kernel
theorem dX1_placeAfter_160 : decode cX1_placeAfter 160 = .ok (.iload_n 1, 1) := by decide +kernel
theorem dX1_placeAfter_161 : decode cX1_placeAfter 161 = .ok (.bipush 48, 2) := by decide +kernel
theorem dX1_placeAfter_163 : decode cX1_placeAfter 163 = .ok (.bipush 55, 2) := by decide +kernel
theorem dX1_placeAfter_165 : decode cX1_placeAfter 165 = .ok (.invokestatic 31, 3) := by decide +kernel
theorem dX1_placeAfter_168 : decode cX1_placeAfter 168 = .ok (.ifCond .eq 8, 3) := by decide +kernel
theorem dX1_placeAfter_171 : decode cX1_placeAfter 171 = .ok (.bipush 8, 2) := by decide +kernel
theorem dX1_placeAfter_173 : decode cX1_placeAfter 173 = .ok (.goto 4, 3) := by decide +kernel
theorem dX1_placeAfter_176 : decode cX1_placeAfter 176 = .ok (.iconst (-1), 1) := by decide +kernel
theorem dX1_placeAfter_177 : decode cX1_placeAfter 177 = .ok (.ireturn, 1) := by decide +kernel
theorem dX1_placeAfter_178 : decode cX1_placeAfter 178 = .ok (.iload_n 1, 1) := by decide +kernel
theorem dX1_placeAfter_179 : decode cX1_placeAfter 179 = .ok (.invokestatic 49, 3) := by decide +kernel
theorem dX1_placeAfter_182 : decode cX1_placeAfter 182 = .ok (.ireturn, 1) := by decide +kernel
theorem dX1_placeAfter_183 : decode cX1_placeAfter 183 = .ok (.iconst (-1), 1) := by decide +kernel
theorem dX1_placeAfter_184 : decode cX1_placeAfter 184 = .ok (.ireturn, 1) := by decide +kernel
theorem dX1_placeAfterFirst_0 : decode cX1_placeAfterFirst 0 = .ok (.iload_n 0, 1) := by decide +kernel
theorem dX1_placeAfterFirst_1 : decode cX1_placeAfterFirst 1 = .ok (.lookupswitch 32 #[(33, 29), (43, 27)], 27) := by decide +kernel
theorem dX1_placeAfterFirst_28 : decode cX1_placeAfterFirst 28 = .ok (.iconst 4, 1) := by decide +kernel
theorem dX1_placeAfterFirst_29 : decode cX1_placeAfterFirst 29 = .ok (.ireturn, 1) := by decide +kernel
theorem dX1_placeAfterFirst_30 : decode cX1_placeAfterFirst 30 = .ok (.bipush 6, 2) := by decide +kernel
theorem dX1_placeAfterFirst_32 : decode cX1_placeAfterFirst 32 = .ok (.ireturn, 1) := by decide +kernel
theorem dX1_placeAfterFirst_33 : decode cX1_placeAfterFirst 33 = .ok (.iload_n 0, 1) := by decide +kernel
theorem dX1_placeAfterFirst_34 : decode cX1_placeAfterFirst 34 = .ok (.bipush 48, 2) := by decide +kernel
theorem dX1_placeAfterFirst_36 : decode cX1_placeAfterFirst 36 = .ok (.bipush 55, 2) := by decide +kernel
theorem dX1_placeAfterFirst_38 : decode cX1_placeAfterFirst 38 = .ok (.invokestatic 31, 3) := by decide +kernel
theorem dX1_placeAfterFirst_41 : decode cX1_placeAfterFirst 41 = .ok (.ifCond .eq 7, 3) := by decide +kernel
theorem dX1_placeAfterFirst_44 : decode cX1_placeAfterFirst 44 = .ok (.iconst 1, 1) := by decide +kernel
theorem dX1_placeAfterFirst_45 : decode cX1_placeAfterFirst 45 = .ok (.goto 4, 3) := by decide +kernel
theorem dX1_placeAfterFirst_48 : decode cX1_placeAfterFirst 48 = .ok (.iconst (-1), 1) := by decide +kernel
theorem dX1_placeAfterFirst_49 : decode cX1_placeAfterFirst 49 = .ok (.ireturn, 1) := by decide +kernel
theorem dX1_placeAfterPart_0 : decode cX1_placeAfterPart 0 = .ok (.iload_n 0, 1) := by decide +kernel
theorem dX1_placeAfterPart_1 : decode cX1_placeAfterPart 1 = .ok (.bipush 59, 2) := by decide +kernel
theorem dX1_placeAfterPart_3 : decode cX1_placeAfterPart 3 = .ok (.if_icmp .ne 7, 3) := by decide +kernel
theorem dX1_placeAfterPart_6 : decode cX1_placeAfterPart 6 = .ok (.iconst 0, 1) := by decide +kernel
theorem dX1_placeAfterPart_7 : decode cX1_placeAfterPart 7 = .ok (.goto 4, 3) := by decide +kernel
theorem dX1_placeAfterPart_10 : decode cX1_placeAfterPart 10 = .ok (.iconst (-1), 1) := by decide +kernel
theorem dX1_placeAfterPart_11 : decode cX1_placeAfterPart 11 = .ok (.ireturn, 1) := by decide +kernel
theorem dX2_init_0 : decode cX2_init 0 = .ok (.aload_n 0, 1) := by decide +kernel
theorem dX2_init_1 : decode cX2_init 1 = .ok (.invokespecial 3, 3) := by decide +kernel
theorem dX2_init_4 : decode cX2_init 4 = .ok (.aload_n 0, 1) := by decide +kernel
theorem dX2_init_5 : decode cX2_init 5 = .ok (.iconst 0, 1) := by decide +kernel
theorem dX2_init_6 : decode cX2_init 6 = .ok (.putfield 9, 3) := by decide +kernel
theorem dX2_init_9 : decode cX2_init 9 = .ok (.aload_n 0, 1) := by decide +kernel
theorem dX2_init_10 : decode cX2_init 10 = .ok (.bipush 40, 2) := by decide +kernel
theorem dX2_init_12 : decode cX2_init 12 = .ok (.newarray .int, 2) := by decide +kernel
theorem dX2_init_14 : decode cX2_init 14 = .ok (.putfield 15, 3) := by decide +kernel
theorem dX2_init_17 : decode cX2_init 17 = .ok (.aload_n 0, 1) := by decide +kernel
theorem dX2_init_18 : decode cX2_init 18 = .ok (.bipush 40, 2) := by decide +kernel
theorem dX2_init_20 : decode cX2_init 20 = .ok (.newarray .int, 2) := by decide +kernel
theorem dX2_init_22 : decode cX2_init 22 = .ok (.putfield 19, 3) := by decide +kernel
theorem dX2_init_25 : decode cX2_init 25 = .ok (.aload_n 0, 1) := by decide +kernel
theorem dX2_init_26 : decode cX2_init 26 = .ok (.bipush 40, 2) := by decide +kernel
theorem dX2_init_28 : decode cX2_init 28 = .ok (.newarray .int, 2) := by decide +kernel
theorem dX2_init_30 : decode cX2_init 30 = .ok (.putfield 22, 3) := by decide +kernel
theorem dX2_init_33 : decode cX2_init 33 = .ok (.aload_n 0, 1) := by decide +kernel
theorem dX2_init_34 : decode cX2_init 34 = .ok (.bipush 40, 2) := by decide +kernel
theorem dX2_init_36 : decode cX2_init 36 = .ok (.newarray .int, 2) := by decide +kernel
theorem dX2_init_38 : decode cX2_init 38 = .ok (.putfield 25, 3) := by decide +kernel
theorem dX2_init_41 : decode cX2_init 41 = .ok (.return_, 1) := by decide +kernel
theorem dX2_keep_0 : decode cX2_keep 0 = .ok (.aload_n 0, 1) := by decide +kernel
theorem dX2_keep_1 : decode cX2_keep 1 = .ok (.getfield 9, 3) := by decide +kernel
theorem dX2_keep_4 : decode cX2_keep 4 = .ok (.bipush 40, 2) := by decide +kernel
theorem dX2_keep_6 : decode cX2_keep 6 = .ok (.if_icmp .lt 41, 3) := by decide +kernel
theorem dX2_keep_9 : decode cX2_keep 9 = .ok (.aload_n 0, 1) := by decide +kernel
theorem dX2_keep_10 : decode cX2_keep 10 = .ok (.getfield 15, 3) := by decide +kernel
theorem dX2_keep_13 : decode cX2_keep 13 = .ok (.invokestatic 28, 3) := by decide +kernel
theorem dX2_keep_16 : decode cX2_keep 16 = .ok (.aload_n 0, 1) := by decide +kernel
theorem dX2_keep_17 : decode cX2_keep 17 = .ok (.getfield 19, 3) := by decide +kernel
theorem dX2_keep_20 : decode cX2_keep 20 = .ok (.invokestatic 28, 3) := by decide +kernel
theorem dX2_keep_23 : decode cX2_keep 23 = .ok (.aload_n 0, 1) := by decide +kernel
theorem dX2_keep_24 : decode cX2_keep 24 = .ok (.getfield 22, 3) := by decide +kernel
theorem dX2_keep_27 : decode cX2_keep 27 = .ok (.invokestatic 28, 3) := by decide +kernel
theorem dX2_keep_30 : decode cX2_keep 30 = .ok (.aload_n 0, 1) := by decide +kernel
theorem dX2_keep_31 : decode cX2_keep 31 = .ok (.getfield 25, 3) := by decide +kernel
theorem dX2_keep_34 : decode cX2_keep 34 = .ok (.invokestatic 28, 3) := by decide +kernel
theorem dX2_keep_37 : decode cX2_keep 37 = .ok (.aload_n 0, 1) := by decide +kernel
theorem dX2_keep_38 : decode cX2_keep 38 = .ok (.dup, 1) := by decide +kernel
theorem dX2_keep_39 : decode cX2_keep 39 = .ok (.getfield 9, 3) := by decide +kernel
theorem dX2_keep_42 : decode cX2_keep 42 = .ok (.iconst 1, 1) := by decide +kernel
theorem dX2_keep_43 : decode cX2_keep 43 = .ok (.isub, 1) := by decide +kernel
theorem dX2_keep_44 : decode cX2_keep 44 = .ok (.putfield 9, 3) := by decide +kernel
theorem dX2_keep_47 : decode cX2_keep 47 = .ok (.aload_n 0, 1) := by decide +kernel
theorem dX2_keep_48 : decode cX2_keep 48 = .ok (.getfield 15, 3) := by decide +kernel
theorem dX2_keep_51 : decode cX2_keep 51 = .ok (.aload_n 0, 1) := by decide +kernel
theorem dX2_keep_52 : decode cX2_keep 52 = .ok (.getfield 9, 3) := by decide +kernel
theorem dX2_keep_55 : decode cX2_keep 55 = .ok (.iload_n 1, 1) := by decide +kernel
theorem dX2_keep_56 : decode cX2_keep 56 = .ok (.invokestatic 32, 3) := by decide +kernel
theorem dX2_keep_59 : decode cX2_keep 59 = .ok (.aload_n 0, 1) := by decide +kernel
theorem dX2_keep_60 : decode cX2_keep 60 = .ok (.getfield 19, 3) := by decide +kernel
theorem dX2_keep_63 : decode cX2_keep 63 = .ok (.aload_n 0, 1) := by decide +kernel
theorem dX2_keep_64 : decode cX2_keep 64 = .ok (.getfield 9, 3) := by decide +kernel
theorem dX2_keep_67 : decode cX2_keep 67 = .ok (.iload_n 2, 1) := by decide +kernel
theorem dX2_keep_68 : decode cX2_keep 68 = .ok (.invokestatic 32, 3) := by decide +kernel
theorem dX2_keep_71 : decode cX2_keep 71 = .ok (.aload_n 0, 1) := by decide +kernel
theorem dX2_keep_72 : decode cX2_keep 72 = .ok (.getfield 22, 3) := by decide +kernel
theorem dX2_keep_75 : decode cX2_keep 75 = .ok (.aload_n 0, 1) := by decide +kernel
theorem dX2_keep_76 : decode cX2_keep 76 = .ok (.getfield 9, 3) := by decide +kernel
theorem dX2_keep_79 : decode cX2_keep 79 = .ok (.iload_n 3, 1) := by decide +kernel
theorem dX2_keep_80 : decode cX2_keep 80 = .ok (.invokestatic 32, 3) := by decide +kernel
theorem dX2_keep_83 : decode cX2_keep 83 = .ok (.aload_n 0, 1) := by decide +kernel
theorem dX2_keep_84 : decode cX2_keep 84 = .ok (.getfield 25, 3) := by decide +kernel
theorem dX2_keep_87 : decode cX2_keep 87 = .ok (.aload_n 0, 1) := by decide +kernel
theorem dX2_keep_88 : decode cX2_keep 88 = .ok (.getfield 9, 3) := by decide +kernel
theorem dX2_keep_91 : decode cX2_keep 91 = .ok (.iload 4, 2) := by decide +kernel
theorem dX2_keep_93 : decode cX2_keep 93 = .ok (.invokestatic 32, 3) := by decide +kernel
theorem dX2_keep_96 : decode cX2_keep 96 = .ok (.aload_n 0, 1) := by decide +kernel
theorem dX2_keep_97 : decode cX2_keep 97 = .ok (.dup, 1) := by decide +kernel
theorem dX2_keep_98 : decode cX2_keep 98 = .ok (.getfield 9, 3) := by decide +kernel
theorem dX2_keep_101 : decode cX2_keep 101 = .ok (.iconst 1, 1) := by decide +kernel
theorem dX2_keep_102 : decode cX2_keep 102 = .ok (.iadd, 1) := by decide +kernel
theorem dX2_keep_103 : decode cX2_keep 103 = .ok (.putfield 9, 3) := by decide +kernel
theorem dX2_keep_106 : decode cX2_keep 106 = .ok (.return_, 1) := by decide +kernel
theorem dX2_countingOn_0 : decode cX2_countingOn 0 = .ok (.iconst 0, 1) := by decide +kernel
theorem dX2_countingOn_1 : decode cX2_countingOn 1 = .ok (.istore 5, 2) := by decide +kernel
theorem dX2_countingOn_3 : decode cX2_countingOn 3 = .ok (.iconst 0, 1) := by decide +kernel
theorem dX2_countingOn_4 : decode cX2_countingOn 4 = .ok (.istore 6, 2) := by decide +kernel
theorem dX2_countingOn_6 : decode cX2_countingOn 6 = .ok (.iload 6, 2) := by decide +kernel
theorem dX2_countingOn_8 : decode cX2_countingOn 8 = .ok (.aload_n 0, 1) := by decide +kernel
theorem dX2_countingOn_9 : decode cX2_countingOn 9 = .ok (.getfield 9, 3) := by decide +kernel
theorem dX2_countingOn_12 : decode cX2_countingOn 12 = .ok (.if_icmp .ge 75, 3) := by decide +kernel
theorem dX2_countingOn_15 : decode cX2_countingOn 15 = .ok (.aload_n 0, 1) := by decide +kernel
theorem dX2_countingOn_16 : decode cX2_countingOn 16 = .ok (.getfield 15, 3) := by decide +kernel
theorem dX2_countingOn_19 : decode cX2_countingOn 19 = .ok (.iload 6, 2) := by decide +kernel
theorem dX2_countingOn_21 : decode cX2_countingOn 21 = .ok (.invokestatic 36, 3) := by decide +kernel
theorem dX2_countingOn_24 : decode cX2_countingOn 24 = .ok (.iload_n 2, 1) := by decide +kernel
theorem dX2_countingOn_25 : decode cX2_countingOn 25 = .ok (.if_icmp .ne 56, 3) := by decide +kernel
theorem dX2_countingOn_28 : decode cX2_countingOn 28 = .ok (.aload_n 0, 1) := by decide +kernel
theorem dX2_countingOn_29 : decode cX2_countingOn 29 = .ok (.getfield 19, 3) := by decide +kernel
theorem dX2_countingOn_32 : decode cX2_countingOn 32 = .ok (.iload 6, 2) := by decide +kernel
theorem dX2_countingOn_34 : decode cX2_countingOn 34 = .ok (.invokestatic 36, 3) := by decide +kernel
theorem dX2_countingOn_37 : decode cX2_countingOn 37 = .ok (.iload_n 3, 1) := by decide +kernel
theorem dX2_countingOn_38 : decode cX2_countingOn 38 = .ok (.if_icmp .ne 43, 3) := by decide +kernel
theorem dX2_countingOn_41 : decode cX2_countingOn 41 = .ok (.aload_n 0, 1) := by decide +kernel
theorem dX2_countingOn_42 : decode cX2_countingOn 42 = .ok (.getfield 22, 3) := by decide +kernel
theorem dX2_countingOn_45 : decode cX2_countingOn 45 = .ok (.iload 6, 2) := by decide +kernel
theorem dX2_countingOn_47 : decode cX2_countingOn 47 = .ok (.invokestatic 36, 3) := by decide +kernel
theorem dX2_countingOn_50 : decode cX2_countingOn 50 = .ok (.iload 4, 2) := by decide +kernel
theorem dX2_countingOn_52 : decode cX2_countingOn 52 = .ok (.iconst 1, 1) := by decide +kernel
theorem dX2_countingOn_53 : decode cX2_countingOn 53 = .ok (.isub, 1) := by decide +kernel
theorem dX2_countingOn_54 : decode cX2_countingOn 54 = .ok (.if_icmp .lt 27, 3) := by decide +kernel
theorem dX2_countingOn_57 : decode cX2_countingOn 57 = .ok (.iload_n 1, 1) := by decide +kernel
theorem dX2_countingOn_58 : decode cX2_countingOn 58 = .ok (.aload_n 0, 1) := by decide +kernel
theorem dX2_countingOn_59 : decode cX2_countingOn 59 = .ok (.getfield 25, 3) := by decide +kernel
theorem dX2_countingOn_62 : decode cX2_countingOn 62 = .ok (.iload 6, 2) := by decide +kernel
theorem dX2_countingOn_64 : decode cX2_countingOn 64 = .ok (.invokestatic 36, 3) := by decide +kernel
theorem dX2_countingOn_67 : decode cX2_countingOn 67 = .ok (.getstatic 40, 3) := by decide +kernel
theorem dX2_countingOn_70 : decode cX2_countingOn 70 = .ok (.iload_n 3, 1) := by decide +kernel
theorem dX2_countingOn_71 : decode cX2_countingOn 71 = .ok (.invokestatic 36, 3) := by decide +kernel
theorem dX2_countingOn_74 : decode cX2_countingOn 74 = .ok (.iadd, 1) := by decide +kernel
theorem dX2_countingOn_75 : decode cX2_countingOn 75 = .ok (.if_icmp .ge 6, 3) := by decide +kernel
theorem dX2_countingOn_78 : decode cX2_countingOn 78 = .ok (.iinc 5 1, 3) := by decide +kernel
theorem dX2_countingOn_81 : decode cX2_countingOn 81 = .ok (.iinc 6 1, 3) := by decide +kernel
theorem dX2_countingOn_84 : decode cX2_countingOn 84 = .ok (.goto (-78), 3) := by decide +kernel
theorem dX2_countingOn_87 : decode cX2_countingOn 87 = .ok (.iload 5, 2) := by decide +kernel
theorem dX2_countingOn_89 : decode cX2_countingOn 89 = .ok (.ireturn, 1) := by decide +kernel
theorem dX2_copyFrom_0 : decode cX2_copyFrom 0 = .ok (.aload_n 1, 1) := by decide +kernel
theorem dX2_copyFrom_1 : decode cX2_copyFrom 1 = .ok (.ifnonnull 4, 3) := by decide +kernel
theorem dX2_copyFrom_4 : decode cX2_copyFrom 4 = .ok (.return_, 1) := by decide +kernel
theorem dX2_copyFrom_5 : decode cX2_copyFrom 5 = .ok (.aload_n 0, 1) := by decide +kernel
theorem dX2_copyFrom_6 : decode cX2_copyFrom 6 = .ok (.aload_n 1, 1) := by decide +kernel
theorem dX2_copyFrom_7 : decode cX2_copyFrom 7 = .ok (.getfield 9, 3) := by decide +kernel
theorem dX2_copyFrom_10 : decode cX2_copyFrom 10 = .ok (.putfield 9, 3) := by decide +kernel
theorem dX2_copyFrom_13 : decode cX2_copyFrom 13 = .ok (.aload_n 1, 1) := by decide +kernel
theorem dX2_copyFrom_14 : decode cX2_copyFrom 14 = .ok (.getfield 15, 3) := by decide +kernel
theorem dX2_copyFrom_17 : decode cX2_copyFrom 17 = .ok (.aload_n 0, 1) := by decide +kernel
theorem dX2_copyFrom_18 : decode cX2_copyFrom 18 = .ok (.getfield 15, 3) := by decide +kernel
theorem dX2_copyFrom_21 : decode cX2_copyFrom 21 = .ok (.invokestatic 43, 3) := by decide +kernel
theorem dX2_copyFrom_24 : decode cX2_copyFrom 24 = .ok (.aload_n 1, 1) := by decide +kernel
theorem dX2_copyFrom_25 : decode cX2_copyFrom 25 = .ok (.getfield 19, 3) := by decide +kernel
theorem dX2_copyFrom_28 : decode cX2_copyFrom 28 = .ok (.aload_n 0, 1) := by decide +kernel
theorem dX2_copyFrom_29 : decode cX2_copyFrom 29 = .ok (.getfield 19, 3) := by decide +kernel
theorem dX2_copyFrom_32 : decode cX2_copyFrom 32 = .ok (.invokestatic 43, 3) := by decide +kernel
theorem dX2_copyFrom_35 : decode cX2_copyFrom 35 = .ok (.aload_n 1, 1) := by decide +kernel
theorem dX2_copyFrom_36 : decode cX2_copyFrom 36 = .ok (.getfield 22, 3) := by decide +kernel
theorem dX2_copyFrom_39 : decode cX2_copyFrom 39 = .ok (.aload_n 0, 1) := by decide +kernel
theorem dX2_copyFrom_40 : decode cX2_copyFrom 40 = .ok (.getfield 22, 3) := by decide +kernel
theorem dX2_copyFrom_43 : decode cX2_copyFrom 43 = .ok (.invokestatic 43, 3) := by decide +kernel
theorem dX2_copyFrom_46 : decode cX2_copyFrom 46 = .ok (.aload_n 1, 1) := by decide +kernel
theorem dX2_copyFrom_47 : decode cX2_copyFrom 47 = .ok (.getfield 25, 3) := by decide +kernel
theorem dX2_copyFrom_50 : decode cX2_copyFrom 50 = .ok (.aload_n 0, 1) := by decide +kernel
theorem dX2_copyFrom_51 : decode cX2_copyFrom 51 = .ok (.getfield 25, 3) := by decide +kernel
theorem dX2_copyFrom_54 : decode cX2_copyFrom 54 = .ok (.invokestatic 43, 3) := by decide +kernel
theorem dX2_copyFrom_57 : decode cX2_copyFrom 57 = .ok (.return_, 1) := by decide +kernel
theorem dX3_init_0 : decode cX3_init 0 = .ok (.aload_n 0, 1) := by decide +kernel
theorem dX3_init_1 : decode cX3_init 1 = .ok (.invokespecial 3, 3) := by decide +kernel
theorem dX3_init_4 : decode cX3_init 4 = .ok (.aload_n 0, 1) := by decide +kernel
theorem dX3_init_5 : decode cX3_init 5 = .ok (.iconst 0, 1) := by decide +kernel
theorem dX3_init_6 : decode cX3_init 6 = .ok (.putfield 9, 3) := by decide +kernel
theorem dX3_init_9 : decode cX3_init 9 = .ok (.aload_n 0, 1) := by decide +kernel
theorem dX3_init_10 : decode cX3_init 10 = .ok (.bipush 6, 2) := by decide +kernel
theorem dX3_init_12 : decode cX3_init 12 = .ok (.anewarray 15, 3) := by decide +kernel
theorem dX3_init_15 : decode cX3_init 15 = .ok (.putfield 17, 3) := by decide +kernel
theorem dX3_init_18 : decode cX3_init 18 = .ok (.iconst 0, 1) := by decide +kernel
theorem dX3_init_19 : decode cX3_init 19 = .ok (.istore_n 1, 1) := by decide +kernel
theorem dX3_init_20 : decode cX3_init 20 = .ok (.iload_n 1, 1) := by decide +kernel
theorem dX3_init_21 : decode cX3_init 21 = .ok (.aload_n 0, 1) := by decide +kernel
theorem dX3_init_22 : decode cX3_init 22 = .ok (.getfield 17, 3) := by decide +kernel
theorem dX3_init_25 : decode cX3_init 25 = .ok (.arraylength, 1) := by decide +kernel
theorem dX3_init_26 : decode cX3_init 26 = .ok (.if_icmp .ge 22, 3) := by decide +kernel
theorem dX3_init_29 : decode cX3_init 29 = .ok (.aload_n 0, 1) := by decide +kernel
theorem dX3_init_30 : decode cX3_init 30 = .ok (.getfield 17, 3) := by decide +kernel
theorem dX3_init_33 : decode cX3_init 33 = .ok (.iload_n 1, 1) := by decide +kernel
theorem dX3_init_34 : decode cX3_init 34 = .ok (.new 15, 3) := by decide +kernel
theorem dX3_init_37 : decode cX3_init 37 = .ok (.dup, 1) := by decide +kernel
theorem dX3_init_38 : decode cX3_init 38 = .ok (.invokespecial 21, 3) := by decide +kernel
theorem dX3_init_41 : decode cX3_init 41 = .ok (.aastore, 1) := by decide +kernel
theorem dX3_init_42 : decode cX3_init 42 = .ok (.iinc 1 1, 3) := by decide +kernel
theorem dX3_init_45 : decode cX3_init 45 = .ok (.goto (-25), 3) := by decide +kernel
theorem dX3_init_48 : decode cX3_init 48 = .ok (.return_, 1) := by decide +kernel
theorem dX3_keep_0 : decode cX3_keep 0 = .ok (.aload_n 0, 1) := by decide +kernel
theorem dX3_keep_1 : decode cX3_keep 1 = .ok (.getfield 9, 3) := by decide +kernel
theorem dX3_keep_4 : decode cX3_keep 4 = .ok (.bipush 6, 2) := by decide +kernel
theorem dX3_keep_6 : decode cX3_keep 6 = .ok (.if_icmp .lt 7, 3) := by decide +kernel
theorem dX3_keep_9 : decode cX3_keep 9 = .ok (.aload_n 0, 1) := by decide +kernel
theorem dX3_keep_10 : decode cX3_keep 10 = .ok (.invokevirtual 22, 3) := by decide +kernel
theorem dX3_keep_13 : decode cX3_keep 13 = .ok (.aload_n 0, 1) := by decide +kernel
theorem dX3_keep_14 : decode cX3_keep 14 = .ok (.aload_n 0, 1) := by decide +kernel
theorem dX3_keep_15 : decode cX3_keep 15 = .ok (.getfield 9, 3) := by decide +kernel
theorem dX3_keep_18 : decode cX3_keep 18 = .ok (.invokevirtual 25, 3) := by decide +kernel
theorem dX3_keep_21 : decode cX3_keep 21 = .ok (.astore_n 2, 1) := by decide +kernel
theorem dX3_keep_22 : decode cX3_keep 22 = .ok (.aload_n 2, 1) := by decide +kernel
theorem dX3_keep_23 : decode cX3_keep 23 = .ok (.ifnull 18, 3) := by decide +kernel
theorem dX3_keep_26 : decode cX3_keep 26 = .ok (.aload_n 2, 1) := by decide +kernel
theorem dX3_keep_27 : decode cX3_keep 27 = .ok (.aload_n 1, 1) := by decide +kernel
theorem dX3_keep_28 : decode cX3_keep 28 = .ok (.invokevirtual 29, 3) := by decide +kernel
theorem dX3_keep_31 : decode cX3_keep 31 = .ok (.aload_n 0, 1) := by decide +kernel
theorem dX3_keep_32 : decode cX3_keep 32 = .ok (.dup, 1) := by decide +kernel
theorem dX3_keep_33 : decode cX3_keep 33 = .ok (.getfield 9, 3) := by decide +kernel
theorem dX3_keep_36 : decode cX3_keep 36 = .ok (.iconst 1, 1) := by decide +kernel
theorem dX3_keep_37 : decode cX3_keep 37 = .ok (.iadd, 1) := by decide +kernel
theorem dX3_keep_38 : decode cX3_keep 38 = .ok (.putfield 9, 3) := by decide +kernel
theorem dX3_keep_41 : decode cX3_keep 41 = .ok (.return_, 1) := by decide +kernel
theorem dX3_dropOldest_0 : decode cX3_dropOldest 0 = .ok (.aload_n 0, 1) := by decide +kernel
theorem dX3_dropOldest_1 : decode cX3_dropOldest 1 = .ok (.iconst 0, 1) := by decide +kernel
theorem dX3_dropOldest_2 : decode cX3_dropOldest 2 = .ok (.invokevirtual 25, 3) := by decide +kernel
theorem dX3_dropOldest_5 : decode cX3_dropOldest 5 = .ok (.astore_n 1, 1) := by decide +kernel
theorem dX3_dropOldest_6 : decode cX3_dropOldest 6 = .ok (.iconst 0, 1) := by decide +kernel
theorem dX3_dropOldest_7 : decode cX3_dropOldest 7 = .ok (.istore_n 2, 1) := by decide +kernel
theorem dX3_dropOldest_8 : decode cX3_dropOldest 8 = .ok (.iload_n 2, 1) := by decide +kernel
theorem dX3_dropOldest_9 : decode cX3_dropOldest 9 = .ok (.iconst 1, 1) := by decide +kernel
theorem dX3_dropOldest_10 : decode cX3_dropOldest 10 = .ok (.iadd, 1) := by decide +kernel
theorem dX3_dropOldest_11 : decode cX3_dropOldest 11 = .ok (.aload_n 0, 1) := by decide +kernel
theorem dX3_dropOldest_12 : decode cX3_dropOldest 12 = .ok (.getfield 17, 3) := by decide +kernel
theorem dX3_dropOldest_15 : decode cX3_dropOldest 15 = .ok (.arraylength, 1) := by decide +kernel
theorem dX3_dropOldest_16 : decode cX3_dropOldest 16 = .ok (.if_icmp .ge 23, 3) := by decide +kernel
theorem dX3_dropOldest_19 : decode cX3_dropOldest 19 = .ok (.aload_n 0, 1) := by decide +kernel
theorem dX3_dropOldest_20 : decode cX3_dropOldest 20 = .ok (.getfield 17, 3) := by decide +kernel
theorem dX3_dropOldest_23 : decode cX3_dropOldest 23 = .ok (.iload_n 2, 1) := by decide +kernel
theorem dX3_dropOldest_24 : decode cX3_dropOldest 24 = .ok (.aload_n 0, 1) := by decide +kernel
theorem dX3_dropOldest_25 : decode cX3_dropOldest 25 = .ok (.getfield 17, 3) := by decide +kernel
theorem dX3_dropOldest_28 : decode cX3_dropOldest 28 = .ok (.iload_n 2, 1) := by decide +kernel
theorem dX3_dropOldest_29 : decode cX3_dropOldest 29 = .ok (.iconst 1, 1) := by decide +kernel
theorem dX3_dropOldest_30 : decode cX3_dropOldest 30 = .ok (.iadd, 1) := by decide +kernel
theorem dX3_dropOldest_31 : decode cX3_dropOldest 31 = .ok (.aaload, 1) := by decide +kernel
theorem dX3_dropOldest_32 : decode cX3_dropOldest 32 = .ok (.aastore, 1) := by decide +kernel
theorem dX3_dropOldest_33 : decode cX3_dropOldest 33 = .ok (.iinc 2 1, 3) := by decide +kernel
theorem dX3_dropOldest_36 : decode cX3_dropOldest 36 = .ok (.goto (-28), 3) := by decide +kernel
theorem dX3_dropOldest_39 : decode cX3_dropOldest 39 = .ok (.aload_n 0, 1) := by decide +kernel
theorem dX3_dropOldest_40 : decode cX3_dropOldest 40 = .ok (.getfield 17, 3) := by decide +kernel
theorem dX3_dropOldest_43 : decode cX3_dropOldest 43 = .ok (.arraylength, 1) := by decide +kernel
theorem dX3_dropOldest_44 : decode cX3_dropOldest 44 = .ok (.ifCond .le 16, 3) := by decide +kernel
theorem dX3_dropOldest_47 : decode cX3_dropOldest 47 = .ok (.aload_n 0, 1) := by decide +kernel
theorem dX3_dropOldest_48 : decode cX3_dropOldest 48 = .ok (.getfield 17, 3) := by decide +kernel
theorem dX3_dropOldest_51 : decode cX3_dropOldest 51 = .ok (.aload_n 0, 1) := by decide +kernel
theorem dX3_dropOldest_52 : decode cX3_dropOldest 52 = .ok (.getfield 17, 3) := by decide +kernel
theorem dX3_dropOldest_55 : decode cX3_dropOldest 55 = .ok (.arraylength, 1) := by decide +kernel
theorem dX3_dropOldest_56 : decode cX3_dropOldest 56 = .ok (.iconst 1, 1) := by decide +kernel
theorem dX3_dropOldest_57 : decode cX3_dropOldest 57 = .ok (.isub, 1) := by decide +kernel
theorem dX3_dropOldest_58 : decode cX3_dropOldest 58 = .ok (.aload_n 1, 1) := by decide +kernel
theorem dX3_dropOldest_59 : decode cX3_dropOldest 59 = .ok (.aastore, 1) := by decide +kernel
theorem dX3_dropOldest_60 : decode cX3_dropOldest 60 = .ok (.aload_n 0, 1) := by decide +kernel
theorem dX3_dropOldest_61 : decode cX3_dropOldest 61 = .ok (.dup, 1) := by decide +kernel
theorem dX3_dropOldest_62 : decode cX3_dropOldest 62 = .ok (.getfield 9, 3) := by decide +kernel
theorem dX3_dropOldest_65 : decode cX3_dropOldest 65 = .ok (.iconst 1, 1) := by decide +kernel
theorem dX3_dropOldest_66 : decode cX3_dropOldest 66 = .ok (.isub, 1) := by decide +kernel
theorem dX3_dropOldest_67 : decode cX3_dropOldest 67 = .ok (.putfield 9, 3) := by decide +kernel
theorem dX3_dropOldest_70 : decode cX3_dropOldest 70 = .ok (.return_, 1) := by decide +kernel
theorem dX3_restoreLatest_0 : decode cX3_restoreLatest 0 = .ok (.aload_n 0, 1) := by decide +kernel
theorem dX3_restoreLatest_1 : decode cX3_restoreLatest 1 = .ok (.aload_n 0, 1) := by decide +kernel
theorem dX3_restoreLatest_2 : decode cX3_restoreLatest 2 = .ok (.getfield 9, 3) := by decide +kernel
theorem dX3_restoreLatest_5 : decode cX3_restoreLatest 5 = .ok (.iconst 1, 1) := by decide +kernel
theorem dX3_restoreLatest_6 : decode cX3_restoreLatest 6 = .ok (.isub, 1) := by decide +kernel
theorem dX3_restoreLatest_7 : decode cX3_restoreLatest 7 = .ok (.invokevirtual 25, 3) := by decide +kernel
theorem dX3_restoreLatest_10 : decode cX3_restoreLatest 10 = .ok (.astore_n 2, 1) := by decide +kernel
theorem dX3_restoreLatest_11 : decode cX3_restoreLatest 11 = .ok (.aload_n 2, 1) := by decide +kernel
theorem dX3_restoreLatest_12 : decode cX3_restoreLatest 12 = .ok (.ifnull 22, 3) := by decide +kernel
theorem dX3_restoreLatest_15 : decode cX3_restoreLatest 15 = .ok (.aload_n 1, 1) := by decide +kernel
theorem dX3_restoreLatest_16 : decode cX3_restoreLatest 16 = .ok (.ifnull 18, 3) := by decide +kernel
theorem dX3_restoreLatest_19 : decode cX3_restoreLatest 19 = .ok (.aload_n 1, 1) := by decide +kernel
theorem dX3_restoreLatest_20 : decode cX3_restoreLatest 20 = .ok (.aload_n 2, 1) := by decide +kernel
theorem dX3_restoreLatest_21 : decode cX3_restoreLatest 21 = .ok (.invokevirtual 29, 3) := by decide +kernel
theorem dX3_restoreLatest_24 : decode cX3_restoreLatest 24 = .ok (.aload_n 0, 1) := by decide +kernel
theorem dX3_restoreLatest_25 : decode cX3_restoreLatest 25 = .ok (.dup, 1) := by decide +kernel
theorem dX3_restoreLatest_26 : decode cX3_restoreLatest 26 = .ok (.getfield 9, 3) := by decide +kernel
theorem dX3_restoreLatest_29 : decode cX3_restoreLatest 29 = .ok (.iconst 1, 1) := by decide +kernel
theorem dX3_restoreLatest_30 : decode cX3_restoreLatest 30 = .ok (.isub, 1) := by decide +kernel
theorem dX3_restoreLatest_31 : decode cX3_restoreLatest 31 = .ok (.putfield 9, 3) := by decide +kernel
theorem dX3_restoreLatest_34 : decode cX3_restoreLatest 34 = .ok (.return_, 1) := by decide +kernel
theorem dX3_stateAt_0 : decode cX3_stateAt 0 = .ok (.iload_n 1, 1) := by decide +kernel
theorem dX3_stateAt_1 : decode cX3_stateAt 1 = .ok (.ifCond .lt 21, 3) := by decide +kernel
theorem dX3_stateAt_4 : decode cX3_stateAt 4 = .ok (.iload_n 1, 1) := by decide +kernel
theorem dX3_stateAt_5 : decode cX3_stateAt 5 = .ok (.aload_n 0, 1) := by decide +kernel
theorem dX3_stateAt_6 : decode cX3_stateAt 6 = .ok (.getfield 17, 3) := by decide +kernel
theorem dX3_stateAt_9 : decode cX3_stateAt 9 = .ok (.arraylength, 1) := by decide +kernel
theorem dX3_stateAt_10 : decode cX3_stateAt 10 = .ok (.if_icmp .ge 12, 3) := by decide +kernel
theorem dX3_stateAt_13 : decode cX3_stateAt 13 = .ok (.aload_n 0, 1) := by decide +kernel
theorem dX3_stateAt_14 : decode cX3_stateAt 14 = .ok (.getfield 17, 3) := by decide +kernel
theorem dX3_stateAt_17 : decode cX3_stateAt 17 = .ok (.iload_n 1, 1) := by decide +kernel
theorem dX3_stateAt_18 : decode cX3_stateAt 18 = .ok (.aaload, 1) := by decide +kernel
theorem dX3_stateAt_19 : decode cX3_stateAt 19 = .ok (.goto 4, 3) := by decide +kernel
theorem dX3_stateAt_22 : decode cX3_stateAt 22 = .ok (.aconst_null, 1) := by decide +kernel
theorem dX3_stateAt_23 : decode cX3_stateAt 23 = .ok (.areturn, 1) := by decide +kernel
theorem dX4_init_0 : decode cX4_init 0 = .ok (.aload_n 0, 1) := by decide +kernel
theorem dX4_init_1 : decode cX4_init 1 = .ok (.invokespecial 3, 3) := by decide +kernel
theorem dX4_init_4 : decode cX4_init 4 = .ok (.aload_n 0, 1) := by decide +kernel
theorem dX4_init_5 : decode cX4_init 5 = .ok (.iconst 0, 1) := by decide +kernel
theorem dX4_init_6 : decode cX4_init 6 = .ok (.putfield 9, 3) := by decide +kernel
theorem dX4_init_9 : decode cX4_init 9 = .ok (.aload_n 0, 1) := by decide +kernel
theorem dX4_init_10 : decode cX4_init 10 = .ok (.bipush 10, 2) := by decide +kernel
theorem dX4_init_12 : decode cX4_init 12 = .ok (.newarray .int, 2) := by decide +kernel
theorem dX4_init_14 : decode cX4_init 14 = .ok (.putfield 15, 3) := by decide +kernel
theorem dX4_init_17 : decode cX4_init 17 = .ok (.aload_n 0, 1) := by decide +kernel
theorem dX4_init_18 : decode cX4_init 18 = .ok (.bipush 10, 2) := by decide +kernel
theorem dX4_init_20 : decode cX4_init 20 = .ok (.newarray .int, 2) := by decide +kernel
theorem dX4_init_22 : decode cX4_init 22 = .ok (.putfield 19, 3) := by decide +kernel
theorem dX4_init_25 : decode cX4_init 25 = .ok (.aload_n 0, 1) := by decide +kernel
theorem dX4_init_26 : decode cX4_init 26 = .ok (.bipush 10, 2) := by decide +kernel
theorem dX4_init_28 : decode cX4_init 28 = .ok (.newarray .int, 2) := by decide +kernel
theorem dX4_init_30 : decode cX4_init 30 = .ok (.putfield 22, 3) := by decide +kernel
theorem dX4_init_33 : decode cX4_init 33 = .ok (.aload_n 0, 1) := by decide +kernel
theorem dX4_init_34 : decode cX4_init 34 = .ok (.bipush 10, 2) := by decide +kernel
theorem dX4_init_36 : decode cX4_init 36 = .ok (.newarray .int, 2) := by decide +kernel
theorem dX4_init_38 : decode cX4_init 38 = .ok (.putfield 25, 3) := by decide +kernel
theorem dX4_init_41 : decode cX4_init 41 = .ok (.aload_n 0, 1) := by decide +kernel
theorem dX4_init_42 : decode cX4_init 42 = .ok (.bipush 10, 2) := by decide +kernel
theorem dX4_init_44 : decode cX4_init 44 = .ok (.newarray .int, 2) := by decide +kernel
theorem dX4_init_46 : decode cX4_init 46 = .ok (.putfield 28, 3) := by decide +kernel
theorem dX4_init_49 : decode cX4_init 49 = .ok (.return_, 1) := by decide +kernel
theorem dX4_has_0 : decode cX4_has 0 = .ok (.iload_n 1, 1) := by decide +kernel
theorem dX4_has_1 : decode cX4_has 1 = .ok (.ifCond .lt 15, 3) := by decide +kernel
theorem dX4_has_4 : decode cX4_has 4 = .ok (.iload_n 1, 1) := by decide +kernel
theorem dX4_has_5 : decode cX4_has 5 = .ok (.aload_n 0, 1) := by decide +kernel
theorem dX4_has_6 : decode cX4_has 6 = .ok (.getfield 9, 3) := by decide +kernel
theorem dX4_has_9 : decode cX4_has 9 = .ok (.if_icmp .ge 7, 3) := by decide +kernel
theorem dX4_has_12 : decode cX4_has 12 = .ok (.iconst 1, 1) := by decide +kernel
theorem dX4_has_13 : decode cX4_has 13 = .ok (.goto 4, 3) := by decide +kernel
theorem dX4_has_16 : decode cX4_has 16 = .ok (.iconst 0, 1) := by decide +kernel
theorem dX4_has_17 : decode cX4_has 17 = .ok (.ireturn, 1) := by decide +kernel
theorem dX4_tell_0 : decode cX4_tell 0 = .ok (.aload_n 0, 1) := by decide +kernel
theorem dX4_tell_1 : decode cX4_tell 1 = .ok (.getfield 9, 3) := by decide +kernel
theorem dX4_tell_4 : decode cX4_tell 4 = .ok (.istore 4, 2) := by decide +kernel
theorem dX4_tell_6 : decode cX4_tell 6 = .ok (.aload_n 0, 1) := by decide +kernel
theorem dX4_tell_7 : decode cX4_tell 7 = .ok (.getfield 15, 3) := by decide +kernel
theorem dX4_tell_10 : decode cX4_tell 10 = .ok (.iload 4, 2) := by decide +kernel
theorem dX4_tell_12 : decode cX4_tell 12 = .ok (.iload_n 1, 1) := by decide +kernel
theorem dX4_tell_13 : decode cX4_tell 13 = .ok (.invokestatic 31, 3) := by decide +kernel
theorem dX4_tell_16 : decode cX4_tell 16 = .ok (.aload_n 0, 1) := by decide +kernel
theorem dX4_tell_17 : decode cX4_tell 17 = .ok (.getfield 19, 3) := by decide +kernel
theorem dX4_tell_20 : decode cX4_tell 20 = .ok (.iload 4, 2) := by decide +kernel
theorem dX4_tell_22 : decode cX4_tell 22 = .ok (.iload_n 2, 1) := by decide +kernel
theorem dX4_tell_23 : decode cX4_tell 23 = .ok (.invokestatic 31, 3) := by decide +kernel
theorem dX4_tell_26 : decode cX4_tell 26 = .ok (.aload_n 0, 1) := by decide +kernel
theorem dX4_tell_27 : decode cX4_tell 27 = .ok (.getfield 22, 3) := by decide +kernel
theorem dX4_tell_30 : decode cX4_tell 30 = .ok (.iload 4, 2) := by decide +kernel
theorem dX4_tell_32 : decode cX4_tell 32 = .ok (.iload_n 3, 1) := by decide +kernel
theorem dX4_tell_33 : decode cX4_tell 33 = .ok (.invokestatic 31, 3) := by decide +kernel
theorem dX4_tell_36 : decode cX4_tell 36 = .ok (.aload_n 0, 1) := by decide +kernel
theorem dX4_tell_37 : decode cX4_tell 37 = .ok (.getfield 25, 3) := by decide +kernel
theorem dX4_tell_40 : decode cX4_tell 40 = .ok (.iload 4, 2) := by decide +kernel
theorem dX4_tell_42 : decode cX4_tell 42 = .ok (.iconst (-1), 1) := by decide +kernel
theorem dX4_tell_43 : decode cX4_tell 43 = .ok (.invokestatic 31, 3) := by decide +kernel
theorem dX4_tell_46 : decode cX4_tell 46 = .ok (.aload_n 0, 1) := by decide +kernel
theorem dX4_tell_47 : decode cX4_tell 47 = .ok (.getfield 28, 3) := by decide +kernel
theorem dX4_tell_50 : decode cX4_tell 50 = .ok (.iload 4, 2) := by decide +kernel
theorem dX4_tell_52 : decode cX4_tell 52 = .ok (.iconst (-1), 1) := by decide +kernel
theorem dX4_tell_53 : decode cX4_tell 53 = .ok (.invokestatic 31, 3) := by decide +kernel
theorem dX4_tell_56 : decode cX4_tell 56 = .ok (.aload_n 0, 1) := by decide +kernel
theorem dX4_tell_57 : decode cX4_tell 57 = .ok (.dup, 1) := by decide +kernel
theorem dX4_tell_58 : decode cX4_tell 58 = .ok (.getfield 9, 3) := by decide +kernel
theorem dX4_tell_61 : decode cX4_tell 61 = .ok (.iconst 1, 1) := by decide +kernel
theorem dX4_tell_62 : decode cX4_tell 62 = .ok (.iadd, 1) := by decide +kernel
theorem dX4_tell_63 : decode cX4_tell 63 = .ok (.putfield 9, 3) := by decide +kernel
theorem dX4_tell_66 : decode cX4_tell 66 = .ok (.iload 4, 2) := by decide +kernel
theorem dX4_tell_68 : decode cX4_tell 68 = .ok (.ireturn, 1) := by decide +kernel
theorem dX4_noteShot_0 : decode cX4_noteShot 0 = .ok (.aload_n 0, 1) := by decide +kernel
theorem dX4_noteShot_1 : decode cX4_noteShot 1 = .ok (.getfield 25, 3) := by decide +kernel
theorem dX4_noteShot_4 : decode cX4_noteShot 4 = .ok (.iload_n 1, 1) := by decide +kernel
theorem dX4_noteShot_5 : decode cX4_noteShot 5 = .ok (.iload_n 3, 1) := by decide +kernel
theorem dX4_noteShot_6 : decode cX4_noteShot 6 = .ok (.invokestatic 31, 3) := by decide +kernel
theorem dX4_noteShot_9 : decode cX4_noteShot 9 = .ok (.aload_n 0, 1) := by decide +kernel
theorem dX4_noteShot_10 : decode cX4_noteShot 10 = .ok (.getfield 28, 3) := by decide +kernel
theorem dX4_noteShot_13 : decode cX4_noteShot 13 = .ok (.iload_n 1, 1) := by decide +kernel
theorem dX4_noteShot_14 : decode cX4_noteShot 14 = .ok (.iload_n 2, 1) := by decide +kernel
theorem dX4_noteShot_15 : decode cX4_noteShot 15 = .ok (.invokestatic 31, 3) := by decide +kernel
theorem dX4_noteShot_18 : decode cX4_noteShot 18 = .ok (.return_, 1) := by decide +kernel
theorem dX4_kindOf_0 : decode cX4_kindOf 0 = .ok (.aload_n 0, 1) := by decide +kernel
theorem dX4_kindOf_1 : decode cX4_kindOf 1 = .ok (.getfield 15, 3) := by decide +kernel
theorem dX4_kindOf_4 : decode cX4_kindOf 4 = .ok (.iload_n 1, 1) := by decide +kernel
theorem dX4_kindOf_5 : decode cX4_kindOf 5 = .ok (.invokestatic 35, 3) := by decide +kernel
theorem dX4_kindOf_8 : decode cX4_kindOf 8 = .ok (.ireturn, 1) := by decide +kernel
theorem dX4_riskOf_0 : decode cX4_riskOf 0 = .ok (.aload_n 0, 1) := by decide +kernel
theorem dX4_riskOf_1 : decode cX4_riskOf 1 = .ok (.getfield 19, 3) := by decide +kernel
theorem dX4_riskOf_4 : decode cX4_riskOf 4 = .ok (.iload_n 1, 1) := by decide +kernel
theorem dX4_riskOf_5 : decode cX4_riskOf 5 = .ok (.invokestatic 35, 3) := by decide +kernel
theorem dX4_riskOf_8 : decode cX4_riskOf 8 = .ok (.ireturn, 1) := by decide +kernel
theorem dX4_seenIn_0 : decode cX4_seenIn 0 = .ok (.aload_n 0, 1) := by decide +kernel
theorem dX4_seenIn_1 : decode cX4_seenIn 1 = .ok (.getfield 22, 3) := by decide +kernel
theorem dX4_seenIn_4 : decode cX4_seenIn 4 = .ok (.iload_n 1, 1) := by decide +kernel
theorem dX4_seenIn_5 : decode cX4_seenIn 5 = .ok (.invokestatic 35, 3) := by decide +kernel
theorem dX4_seenIn_8 : decode cX4_seenIn 8 = .ok (.ireturn, 1) := by decide +kernel
theorem dX4_dayOfShot_0 : decode cX4_dayOfShot 0 = .ok (.aload_n 0, 1) := by decide +kernel
theorem dX4_dayOfShot_1 : decode cX4_dayOfShot 1 = .ok (.getfield 25, 3) := by decide +kernel
theorem dX4_dayOfShot_4 : decode cX4_dayOfShot 4 = .ok (.iload_n 1, 1) := by decide +kernel
theorem dX4_dayOfShot_5 : decode cX4_dayOfShot 5 = .ok (.invokestatic 35, 3) := by decide +kernel
theorem dX4_dayOfShot_8 : decode cX4_dayOfShot 8 = .ok (.ireturn, 1) := by decide +kernel
theorem dX4_doerOf_0 : decode cX4_doerOf 0 = .ok (.aload_n 0, 1) := by decide +kernel
theorem dX4_doerOf_1 : decode cX4_doerOf 1 = .ok (.getfield 28, 3) := by decide +kernel
theorem dX4_doerOf_4 : decode cX4_doerOf 4 = .ok (.iload_n 1, 1) := by decide +kernel
theorem dX4_doerOf_5 : decode cX4_doerOf 5 = .ok (.invokestatic 35, 3) := by decide +kernel
theorem dX4_doerOf_8 : decode cX4_doerOf 8 = .ok (.ireturn, 1) := by decide +kernel
theorem dX4_isShot_0 : decode cX4_isShot 0 = .ok (.aload_n 0, 1) := by decide +kernel
theorem dX4_isShot_1 : decode cX4_isShot 1 = .ok (.getfield 25, 3) := by decide +kernel
theorem dX4_isShot_4 : decode cX4_isShot 4 = .ok (.iload_n 1, 1) := by decide +kernel
theorem dX4_isShot_5 : decode cX4_isShot 5 = .ok (.invokestatic 35, 3) := by decide +kernel
theorem dX4_isShot_8 : decode cX4_isShot 8 = .ok (.iconst (-1), 1) := by decide +kernel
theorem dX4_isShot_9 : decode cX4_isShot 9 = .ok (.if_icmp .eq 7, 3) := by decide +kernel
theorem dX4_isShot_12 : decode cX4_isShot 12 = .ok (.iconst 1, 1) := by decide +kernel
theorem dX4_isShot_13 : decode cX4_isShot 13 = .ok (.goto 4, 3) := by decide +kernel
theorem dX4_isShot_16 : decode cX4_isShot 16 = .ok (.iconst 0, 1) := by decide +kernel
theorem dX4_isShot_17 : decode cX4_isShot 17 = .ok (.ireturn, 1) := by decide +kernel
theorem dX4_isByDouble_0 : decode cX4_isByDouble 0 = .ok (.aload_n 0, 1) := by decide +kernel
theorem dX4_isByDouble_1 : decode cX4_isByDouble 1 = .ok (.iload_n 1, 1) := by decide +kernel
theorem dX4_isByDouble_2 : decode cX4_isByDouble 2 = .ok (.invokevirtual 39, 3) := by decide +kernel
theorem dX4_isByDouble_5 : decode cX4_isByDouble 5 = .ok (.ifCond .eq 20, 3) := by decide +kernel
theorem dX4_isByDouble_8 : decode cX4_isByDouble 8 = .ok (.aload_n 0, 1) := by decide +kernel
theorem dX4_isByDouble_9 : decode cX4_isByDouble 9 = .ok (.iload_n 1, 1) := by decide +kernel
theorem dX4_isByDouble_10 : decode cX4_isByDouble 10 = .ok (.invokevirtual 43, 3) := by decide +kernel
theorem dX4_isByDouble_13 : decode cX4_isByDouble 13 = .ok (.aload_n 0, 1) := by decide +kernel
theorem dX4_isByDouble_14 : decode cX4_isByDouble 14 = .ok (.iload_n 1, 1) := by decide +kernel
theorem dX4_isByDouble_15 : decode cX4_isByDouble 15 = .ok (.invokevirtual 47, 3) := by decide +kernel
theorem dX4_isByDouble_18 : decode cX4_isByDouble 18 = .ok (.if_icmp .eq 7, 3) := by decide +kernel
theorem dX4_isByDouble_21 : decode cX4_isByDouble 21 = .ok (.iconst 1, 1) := by decide +kernel
theorem dX4_isByDouble_22 : decode cX4_isByDouble 22 = .ok (.goto 4, 3) := by decide +kernel
theorem dX4_isByDouble_25 : decode cX4_isByDouble 25 = .ok (.iconst 0, 1) := by decide +kernel
theorem dX4_isByDouble_26 : decode cX4_isByDouble 26 = .ok (.ireturn, 1) := by decide +kernel
theorem dX4_shotOnes_0 : decode cX4_shotOnes 0 = .ok (.iconst 0, 1) := by decide +kernel
theorem dX4_shotOnes_1 : decode cX4_shotOnes 1 = .ok (.istore_n 1, 1) := by decide +kernel
theorem dX4_shotOnes_2 : decode cX4_shotOnes 2 = .ok (.iconst 0, 1) := by decide +kernel
theorem dX4_shotOnes_3 : decode cX4_shotOnes 3 = .ok (.istore_n 2, 1) := by decide +kernel
theorem dX4_shotOnes_4 : decode cX4_shotOnes 4 = .ok (.iload_n 2, 1) := by decide +kernel
theorem dX4_shotOnes_5 : decode cX4_shotOnes 5 = .ok (.aload_n 0, 1) := by decide +kernel
theorem dX4_shotOnes_6 : decode cX4_shotOnes 6 = .ok (.getfield 9, 3) := by decide +kernel
theorem dX4_shotOnes_9 : decode cX4_shotOnes 9 = .ok (.if_icmp .ge 20, 3) := by decide +kernel
theorem dX4_shotOnes_12 : decode cX4_shotOnes 12 = .ok (.aload_n 0, 1) := by decide +kernel
theorem dX4_shotOnes_13 : decode cX4_shotOnes 13 = .ok (.iload_n 2, 1) := by decide +kernel
theorem dX4_shotOnes_14 : decode cX4_shotOnes 14 = .ok (.invokevirtual 39, 3) := by decide +kernel
theorem dX4_shotOnes_17 : decode cX4_shotOnes 17 = .ok (.ifCond .eq 6, 3) := by decide +kernel
theorem dX4_shotOnes_20 : decode cX4_shotOnes 20 = .ok (.iinc 1 1, 3) := by decide +kernel
theorem dX4_shotOnes_23 : decode cX4_shotOnes 23 = .ok (.iinc 2 1, 3) := by decide +kernel
theorem dX4_shotOnes_26 : decode cX4_shotOnes 26 = .ok (.goto (-22), 3) := by decide +kernel
theorem dX4_shotOnes_29 : decode cX4_shotOnes 29 = .ok (.iload_n 1, 1) := by decide +kernel
theorem dX4_shotOnes_30 : decode cX4_shotOnes 30 = .ok (.ireturn, 1) := by decide +kernel
theorem dX4_shotByDoubles_0 : decode cX4_shotByDoubles 0 = .ok (.iconst 0, 1) := by decide +kernel
theorem dX4_shotByDoubles_1 : decode cX4_shotByDoubles 1 = .ok (.istore_n 1, 1) := by decide +kernel
theorem dX4_shotByDoubles_2 : decode cX4_shotByDoubles 2 = .ok (.iconst 0, 1) := by decide +kernel
theorem dX4_shotByDoubles_3 : decode cX4_shotByDoubles 3 = .ok (.istore_n 2, 1) := by decide +kernel
theorem dX4_shotByDoubles_4 : decode cX4_shotByDoubles 4 = .ok (.iload_n 2, 1) := by decide +kernel
theorem dX4_shotByDoubles_5 : decode cX4_shotByDoubles 5 = .ok (.aload_n 0, 1) := by decide +kernel
theorem dX4_shotByDoubles_6 : decode cX4_shotByDoubles 6 = .ok (.getfield 9, 3) := by decide +kernel
theorem dX4_shotByDoubles_9 : decode cX4_shotByDoubles 9 = .ok (.if_icmp .ge 20, 3) := by decide +kernel
theorem dX4_shotByDoubles_12 : decode cX4_shotByDoubles 12 = .ok (.aload_n 0, 1) := by decide +kernel
theorem dX4_shotByDoubles_13 : decode cX4_shotByDoubles 13 = .ok (.iload_n 2, 1) := by decide +kernel
theorem dX4_shotByDoubles_14 : decode cX4_shotByDoubles 14 = .ok (.invokevirtual 50, 3) := by decide +kernel
theorem dX4_shotByDoubles_17 : decode cX4_shotByDoubles 17 = .ok (.ifCond .eq 6, 3) := by decide +kernel
theorem dX4_shotByDoubles_20 : decode cX4_shotByDoubles 20 = .ok (.iinc 1 1, 3) := by decide +kernel
theorem dX4_shotByDoubles_23 : decode cX4_shotByDoubles 23 = .ok (.iinc 2 1, 3) := by decide +kernel
theorem dX4_shotByDoubles_26 : decode cX4_shotByDoubles 26 = .ok (.goto (-22), 3) := by decide +kernel
theorem dX4_shotByDoubles_29 : decode cX4_shotByDoubles 29 = .ok (.iload_n 1, 1) := by decide +kernel
theorem dX4_shotByDoubles_30 : decode cX4_shotByDoubles 30 = .ok (.ireturn, 1) := by decide +kernel
theorem dX4_shotBy_0 : decode cX4_shotBy 0 = .ok (.iconst 0, 1) := by decide +kernel
theorem dX4_shotBy_1 : decode cX4_shotBy 1 = .ok (.istore_n 2, 1) := by decide +kernel
theorem dX4_shotBy_2 : decode cX4_shotBy 2 = .ok (.iconst 0, 1) := by decide +kernel
theorem dX4_shotBy_3 : decode cX4_shotBy 3 = .ok (.istore_n 3, 1) := by decide +kernel
theorem dX4_shotBy_4 : decode cX4_shotBy 4 = .ok (.iload_n 3, 1) := by decide +kernel
theorem dX4_shotBy_5 : decode cX4_shotBy 5 = .ok (.aload_n 0, 1) := by decide +kernel
theorem dX4_shotBy_6 : decode cX4_shotBy 6 = .ok (.getfield 9, 3) := by decide +kernel
theorem dX4_shotBy_9 : decode cX4_shotBy 9 = .ok (.if_icmp .ge 29, 3) := by decide +kernel
theorem dX4_shotBy_12 : decode cX4_shotBy 12 = .ok (.aload_n 0, 1) := by decide +kernel
theorem dX4_shotBy_13 : decode cX4_shotBy 13 = .ok (.iload_n 3, 1) := by decide +kernel
theorem dX4_shotBy_14 : decode cX4_shotBy 14 = .ok (.invokevirtual 39, 3) := by decide +kernel
theorem dX4_shotBy_17 : decode cX4_shotBy 17 = .ok (.ifCond .eq 15, 3) := by decide +kernel
theorem dX4_shotBy_20 : decode cX4_shotBy 20 = .ok (.aload_n 0, 1) := by decide +kernel
theorem dX4_shotBy_21 : decode cX4_shotBy 21 = .ok (.iload_n 3, 1) := by decide +kernel
theorem dX4_shotBy_22 : decode cX4_shotBy 22 = .ok (.invokevirtual 43, 3) := by decide +kernel
theorem dX4_shotBy_25 : decode cX4_shotBy 25 = .ok (.iload_n 1, 1) := by decide +kernel
theorem dX4_shotBy_26 : decode cX4_shotBy 26 = .ok (.if_icmp .ne 6, 3) := by decide +kernel
theorem dX4_shotBy_29 : decode cX4_shotBy 29 = .ok (.iinc 2 1, 3) := by decide +kernel
theorem dX4_shotBy_32 : decode cX4_shotBy 32 = .ok (.iinc 3 1, 3) := by decide +kernel
theorem dX4_shotBy_35 : decode cX4_shotBy 35 = .ok (.goto (-31), 3) := by decide +kernel
theorem dX4_shotBy_38 : decode cX4_shotBy 38 = .ok (.iload_n 2, 1) := by decide +kernel
theorem dX4_shotBy_39 : decode cX4_shotBy 39 = .ok (.ireturn, 1) := by decide +kernel
theorem dX4_latestShotBy_0 : decode cX4_latestShotBy 0 = .ok (.iconst (-1), 1) := by decide +kernel
theorem dX4_latestShotBy_1 : decode cX4_latestShotBy 1 = .ok (.istore_n 2, 1) := by decide +kernel
theorem dX4_latestShotBy_2 : decode cX4_latestShotBy 2 = .ok (.iconst 0, 1) := by decide +kernel
theorem dX4_latestShotBy_3 : decode cX4_latestShotBy 3 = .ok (.istore_n 3, 1) := by decide +kernel
theorem dX4_latestShotBy_4 : decode cX4_latestShotBy 4 = .ok (.iload_n 3, 1) := by decide +kernel
theorem dX4_latestShotBy_5 : decode cX4_latestShotBy 5 = .ok (.aload_n 0, 1) := by decide +kernel
theorem dX4_latestShotBy_6 : decode cX4_latestShotBy 6 = .ok (.getfield 9, 3) := by decide +kernel
theorem dX4_latestShotBy_9 : decode cX4_latestShotBy 9 = .ok (.if_icmp .ge 42, 3) := by decide +kernel
theorem dX4_latestShotBy_12 : decode cX4_latestShotBy 12 = .ok (.aload_n 0, 1) := by decide +kernel
theorem dX4_latestShotBy_13 : decode cX4_latestShotBy 13 = .ok (.getfield 28, 3) := by decide +kernel
theorem dX4_latestShotBy_16 : decode cX4_latestShotBy 16 = .ok (.iload_n 3, 1) := by decide +kernel
theorem dX4_latestShotBy_17 : decode cX4_latestShotBy 17 = .ok (.invokestatic 35, 3) := by decide +kernel
theorem dX4_latestShotBy_20 : decode cX4_latestShotBy 20 = .ok (.iload_n 1, 1) := by decide +kernel
theorem dX4_latestShotBy_21 : decode cX4_latestShotBy 21 = .ok (.if_icmp .ne 24, 3) := by decide +kernel
theorem dX4_latestShotBy_24 : decode cX4_latestShotBy 24 = .ok (.aload_n 0, 1) := by decide +kernel
theorem dX4_latestShotBy_25 : decode cX4_latestShotBy 25 = .ok (.getfield 25, 3) := by decide +kernel
theorem dX4_latestShotBy_28 : decode cX4_latestShotBy 28 = .ok (.iload_n 3, 1) := by decide +kernel
theorem dX4_latestShotBy_29 : decode cX4_latestShotBy 29 = .ok (.invokestatic 35, 3) := by decide +kernel
theorem dX4_latestShotBy_32 : decode cX4_latestShotBy 32 = .ok (.iload_n 2, 1) := by decide +kernel
theorem dX4_latestShotBy_33 : decode cX4_latestShotBy 33 = .ok (.if_icmp .le 12, 3) := by decide +kernel
theorem dX4_latestShotBy_36 : decode cX4_latestShotBy 36 = .ok (.aload_n 0, 1) := by decide +kernel
theorem dX4_latestShotBy_37 : decode cX4_latestShotBy 37 = .ok (.getfield 25, 3) := by decide +kernel
theorem dX4_latestShotBy_40 : decode cX4_latestShotBy 40 = .ok (.iload_n 3, 1) := by decide +kernel
theorem dX4_latestShotBy_41 : decode cX4_latestShotBy 41 = .ok (.invokestatic 35, 3) := by decide +kernel
theorem dX4_latestShotBy_44 : decode cX4_latestShotBy 44 = .ok (.istore_n 2, 1) := by decide +kernel
theorem dX4_latestShotBy_45 : decode cX4_latestShotBy 45 = .ok (.iinc 3 1, 3) := by decide +kernel
theorem dX4_latestShotBy_48 : decode cX4_latestShotBy 48 = .ok (.goto (-44), 3) := by decide +kernel
theorem dX4_latestShotBy_51 : decode cX4_latestShotBy 51 = .ok (.iload_n 2, 1) := by decide +kernel
theorem dX4_latestShotBy_52 : decode cX4_latestShotBy 52 = .ok (.ireturn, 1) := by decide +kernel
theorem dX4_shareShot_0 : decode cX4_shareShot 0 = .ok (.aload_n 0, 1) := by decide +kernel
theorem dX4_shareShot_1 : decode cX4_shareShot 1 = .ok (.getfield 9, 3) := by decide +kernel
theorem dX4_shareShot_4 : decode cX4_shareShot 4 = .ok (.ifCond .ne 7, 3) := by decide +kernel
theorem dX4_shareShot_7 : decode cX4_shareShot 7 = .ok (.dconst 1, 1) := by decide +kernel
theorem dX4_shareShot_8 : decode cX4_shareShot 8 = .ok (.goto 14, 3) := by decide +kernel
theorem dX4_shareShot_11 : decode cX4_shareShot 11 = .ok (.aload_n 0, 1) := by decide +kernel
theorem dX4_shareShot_12 : decode cX4_shareShot 12 = .ok (.invokevirtual 53, 3) := by decide +kernel
theorem dX4_shareShot_15 : decode cX4_shareShot 15 = .ok (.i2d, 1) := by decide +kernel
theorem dX4_shareShot_16 : decode cX4_shareShot 16 = .ok (.aload_n 0, 1) := by decide +kernel
theorem dX4_shareShot_17 : decode cX4_shareShot 17 = .ok (.getfield 9, 3) := by decide +kernel
theorem dX4_shareShot_20 : decode cX4_shareShot 20 = .ok (.i2d, 1) := by decide +kernel
theorem dX4_shareShot_21 : decode cX4_shareShot 21 = .ok (.ddiv, 1) := by decide +kernel
theorem dX4_shareShot_22 : decode cX4_shareShot 22 = .ok (.dreturn, 1) := by decide +kernel
theorem dX4_copyFrom_0 : decode cX4_copyFrom 0 = .ok (.aload_n 1, 1) := by decide +kernel
theorem dX4_copyFrom_1 : decode cX4_copyFrom 1 = .ok (.ifnonnull 4, 3) := by decide +kernel
theorem dX4_copyFrom_4 : decode cX4_copyFrom 4 = .ok (.return_, 1) := by decide +kernel
theorem dX4_copyFrom_5 : decode cX4_copyFrom 5 = .ok (.aload_n 0, 1) := by decide +kernel
theorem dX4_copyFrom_6 : decode cX4_copyFrom 6 = .ok (.aload_n 1, 1) := by decide +kernel
theorem dX4_copyFrom_7 : decode cX4_copyFrom 7 = .ok (.getfield 9, 3) := by decide +kernel
theorem dX4_copyFrom_10 : decode cX4_copyFrom 10 = .ok (.putfield 9, 3) := by decide +kernel
theorem dX4_copyFrom_13 : decode cX4_copyFrom 13 = .ok (.aload_n 1, 1) := by decide +kernel
theorem dX4_copyFrom_14 : decode cX4_copyFrom 14 = .ok (.getfield 15, 3) := by decide +kernel
theorem dX4_copyFrom_17 : decode cX4_copyFrom 17 = .ok (.aload_n 0, 1) := by decide +kernel
theorem dX4_copyFrom_18 : decode cX4_copyFrom 18 = .ok (.getfield 15, 3) := by decide +kernel
theorem dX4_copyFrom_21 : decode cX4_copyFrom 21 = .ok (.invokestatic 57, 3) := by decide +kernel
theorem dX4_copyFrom_24 : decode cX4_copyFrom 24 = .ok (.aload_n 1, 1) := by decide +kernel
theorem dX4_copyFrom_25 : decode cX4_copyFrom 25 = .ok (.getfield 19, 3) := by decide +kernel
theorem dX4_copyFrom_28 : decode cX4_copyFrom 28 = .ok (.aload_n 0, 1) := by decide +kernel
theorem dX4_copyFrom_29 : decode cX4_copyFrom 29 = .ok (.getfield 19, 3) := by decide +kernel
theorem dX4_copyFrom_32 : decode cX4_copyFrom 32 = .ok (.invokestatic 57, 3) := by decide +kernel
theorem dX4_copyFrom_35 : decode cX4_copyFrom 35 = .ok (.aload_n 1, 1) := by decide +kernel
theorem dX4_copyFrom_36 : decode cX4_copyFrom 36 = .ok (.getfield 22, 3) := by decide +kernel
theorem dX4_copyFrom_39 : decode cX4_copyFrom 39 = .ok (.aload_n 0, 1) := by decide +kernel
theorem dX4_copyFrom_40 : decode cX4_copyFrom 40 = .ok (.getfield 22, 3) := by decide +kernel
theorem dX4_copyFrom_43 : decode cX4_copyFrom 43 = .ok (.invokestatic 57, 3) := by decide +kernel
theorem dX4_copyFrom_46 : decode cX4_copyFrom 46 = .ok (.aload_n 1, 1) := by decide +kernel
theorem dX4_copyFrom_47 : decode cX4_copyFrom 47 = .ok (.getfield 25, 3) := by decide +kernel
theorem dX4_copyFrom_50 : decode cX4_copyFrom 50 = .ok (.aload_n 0, 1) := by decide +kernel
theorem dX4_copyFrom_51 : decode cX4_copyFrom 51 = .ok (.getfield 25, 3) := by decide +kernel
theorem dX4_copyFrom_54 : decode cX4_copyFrom 54 = .ok (.invokestatic 57, 3) := by decide +kernel
theorem dX4_copyFrom_57 : decode cX4_copyFrom 57 = .ok (.aload_n 1, 1) := by decide +kernel
theorem dX4_copyFrom_58 : decode cX4_copyFrom 58 = .ok (.getfield 28, 3) := by decide +kernel
theorem dX4_copyFrom_61 : decode cX4_copyFrom 61 = .ok (.aload_n 0, 1) := by decide +kernel
theorem dX4_copyFrom_62 : decode cX4_copyFrom 62 = .ok (.getfield 28, 3) := by decide +kernel
theorem dX4_copyFrom_65 : decode cX4_copyFrom 65 = .ok (.invokestatic 57, 3) := by decide +kernel
theorem dX4_copyFrom_68 : decode cX4_copyFrom 68 = .ok (.return_, 1) := by decide +kernel
theorem dX5_init_0 : decode cX5_init 0 = .ok (.aload_n 0, 1) := by decide +kernel
theorem dX5_init_1 : decode cX5_init 1 = .ok (.invokespecial 3, 3) := by decide +kernel
theorem dX5_init_4 : decode cX5_init 4 = .ok (.aload_n 0, 1) := by decide +kernel
theorem dX5_init_5 : decode cX5_init 5 = .ok (.iconst 0, 1) := by decide +kernel
theorem dX5_init_6 : decode cX5_init 6 = .ok (.putfield 9, 3) := by decide +kernel
theorem dX5_init_9 : decode cX5_init 9 = .ok (.aload_n 0, 1) := by decide +kernel
theorem dX5_init_10 : decode cX5_init 10 = .ok (.sipush 2000, 3) := by decide +kernel
theorem dX5_init_13 : decode cX5_init 13 = .ok (.putfield 15, 3) := by decide +kernel
theorem dX5_init_16 : decode cX5_init 16 = .ok (.aload_n 0, 1) := by decide +kernel
theorem dX5_init_17 : decode cX5_init 17 = .ok (.iconst 0, 1) := by decide +kernel
theorem dX5_init_18 : decode cX5_init 18 = .ok (.putfield 18, 3) := by decide +kernel
theorem dX5_init_21 : decode cX5_init 21 = .ok (.aload_n 0, 1) := by decide +kernel
theorem dX5_init_22 : decode cX5_init 22 = .ok (.iconst (-1), 1) := by decide +kernel
theorem dX5_init_23 : decode cX5_init 23 = .ok (.putfield 21, 3) := by decide +kernel
theorem dX5_init_26 : decode cX5_init 26 = .ok (.aload_n 0, 1) := by decide +kernel
theorem dX5_init_27 : decode cX5_init 27 = .ok (.iconst 0, 1) := by decide +kernel
theorem dX5_init_28 : decode cX5_init 28 = .ok (.putfield 24, 3) := by decide +kernel
theorem dX5_init_31 : decode cX5_init 31 = .ok (.aload_n 0, 1) := by decide +kernel
theorem dX5_init_32 : decode cX5_init 32 = .ok (.iconst 0, 1) := by decide +kernel
theorem dX5_init_33 : decode cX5_init 33 = .ok (.putfield 27, 3) := by decide +kernel
theorem dX5_init_36 : decode cX5_init 36 = .ok (.aload_n 0, 1) := by decide +kernel
theorem dX5_init_37 : decode cX5_init 37 = .ok (.bipush 8, 2) := by decide +kernel
theorem dX5_init_39 : decode cX5_init 39 = .ok (.newarray .int, 2) := by decide +kernel
theorem dX5_init_41 : decode cX5_init 41 = .ok (.putfield 30, 3) := by decide +kernel
theorem dX5_init_44 : decode cX5_init 44 = .ok (.aload_n 0, 1) := by decide +kernel
theorem dX5_init_45 : decode cX5_init 45 = .ok (.bipush 8, 2) := by decide +kernel
theorem dX5_init_47 : decode cX5_init 47 = .ok (.newarray .int, 2) := by decide +kernel
theorem dX5_init_49 : decode cX5_init 49 = .ok (.putfield 34, 3) := by decide +kernel
theorem dX5_init_52 : decode cX5_init 52 = .ok (.aload_n 0, 1) := by decide +kernel
theorem dX5_init_53 : decode cX5_init 53 = .ok (.new 37, 3) := by decide +kernel
theorem dX5_init_56 : decode cX5_init 56 = .ok (.dup, 1) := by decide +kernel
theorem dX5_init_57 : decode cX5_init 57 = .ok (.invokespecial 39, 3) := by decide +kernel
theorem dX5_init_60 : decode cX5_init 60 = .ok (.putfield 40, 3) := by decide +kernel
theorem dX5_init_63 : decode cX5_init 63 = .ok (.aload_n 0, 1) := by decide +kernel
theorem dX5_init_64 : decode cX5_init 64 = .ok (.new 44, 3) := by decide +kernel
theorem dX5_init_67 : decode cX5_init 67 = .ok (.dup, 1) := by decide +kernel
theorem dX5_init_68 : decode cX5_init 68 = .ok (.invokespecial 46, 3) := by decide +kernel
theorem dX5_init_71 : decode cX5_init 71 = .ok (.putfield 47, 3) := by decide +kernel
theorem dX5_init_74 : decode cX5_init 74 = .ok (.aload_n 0, 1) := by decide +kernel
theorem dX5_init_75 : decode cX5_init 75 = .ok (.new 51, 3) := by decide +kernel
theorem dX5_init_78 : decode cX5_init 78 = .ok (.dup, 1) := by decide +kernel
theorem dX5_init_79 : decode cX5_init 79 = .ok (.invokespecial 53, 3) := by decide +kernel
theorem dX5_init_82 : decode cX5_init 82 = .ok (.putfield 54, 3) := by decide +kernel
theorem dX5_init_85 : decode cX5_init 85 = .ok (.iconst 0, 1) := by decide +kernel
theorem dX5_init_86 : decode cX5_init 86 = .ok (.istore_n 1, 1) := by decide +kernel
theorem dX5_init_87 : decode cX5_init 87 = .ok (.iload_n 1, 1) := by decide +kernel
theorem dX5_init_88 : decode cX5_init 88 = .ok (.aload_n 0, 1) := by decide +kernel
theorem dX5_init_89 : decode cX5_init 89 = .ok (.getfield 30, 3) := by decide +kernel
theorem dX5_init_92 : decode cX5_init 92 = .ok (.arraylength, 1) := by decide +kernel
theorem dX5_init_93 : decode cX5_init 93 = .ok (.if_icmp .ge 18, 3) := by decide +kernel
theorem dX5_init_96 : decode cX5_init 96 = .ok (.aload_n 0, 1) := by decide +kernel
theorem dX5_init_97 : decode cX5_init 97 = .ok (.getfield 30, 3) := by decide +kernel
theorem dX5_init_100 : decode cX5_init 100 = .ok (.iload_n 1, 1) := by decide +kernel
theorem dX5_init_101 : decode cX5_init 101 = .ok (.sipush 170, 3) := by decide +kernel
theorem dX5_init_104 : decode cX5_init 104 = .ok (.iastore, 1) := by decide +kernel
theorem dX5_init_105 : decode cX5_init 105 = .ok (.iinc 1 1, 3) := by decide +kernel
theorem dX5_init_108 : decode cX5_init 108 = .ok (.goto (-21), 3) := by decide +kernel
theorem dX5_init_111 : decode cX5_init 111 = .ok (.return_, 1) := by decide +kernel
theorem dX5_copyFrom_0 : decode cX5_copyFrom 0 = .ok (.aload_n 1, 1) := by decide +kernel
theorem dX5_copyFrom_1 : decode cX5_copyFrom 1 = .ok (.ifnonnull 4, 3) := by decide +kernel
theorem dX5_copyFrom_4 : decode cX5_copyFrom 4 = .ok (.return_, 1) := by decide +kernel
theorem dX5_copyFrom_5 : decode cX5_copyFrom 5 = .ok (.aload_n 0, 1) := by decide +kernel
theorem dX5_copyFrom_6 : decode cX5_copyFrom 6 = .ok (.aload_n 1, 1) := by decide +kernel
theorem dX5_copyFrom_7 : decode cX5_copyFrom 7 = .ok (.getfield 9, 3) := by decide +kernel
theorem dX5_copyFrom_10 : decode cX5_copyFrom 10 = .ok (.putfield 9, 3) := by decide +kernel
theorem dX5_copyFrom_13 : decode cX5_copyFrom 13 = .ok (.aload_n 0, 1) := by decide +kernel
theorem dX5_copyFrom_14 : decode cX5_copyFrom 14 = .ok (.aload_n 1, 1) := by decide +kernel
theorem dX5_copyFrom_15 : decode cX5_copyFrom 15 = .ok (.getfield 15, 3) := by decide +kernel
theorem dX5_copyFrom_18 : decode cX5_copyFrom 18 = .ok (.putfield 15, 3) := by decide +kernel
theorem dX5_copyFrom_21 : decode cX5_copyFrom 21 = .ok (.aload_n 0, 1) := by decide +kernel
theorem dX5_copyFrom_22 : decode cX5_copyFrom 22 = .ok (.aload_n 1, 1) := by decide +kernel
theorem dX5_copyFrom_23 : decode cX5_copyFrom 23 = .ok (.getfield 18, 3) := by decide +kernel
theorem dX5_copyFrom_26 : decode cX5_copyFrom 26 = .ok (.putfield 18, 3) := by decide +kernel
theorem dX5_copyFrom_29 : decode cX5_copyFrom 29 = .ok (.aload_n 0, 1) := by decide +kernel
theorem dX5_copyFrom_30 : decode cX5_copyFrom 30 = .ok (.aload_n 1, 1) := by decide +kernel
theorem dX5_copyFrom_31 : decode cX5_copyFrom 31 = .ok (.getfield 21, 3) := by decide +kernel
theorem dX5_copyFrom_34 : decode cX5_copyFrom 34 = .ok (.putfield 21, 3) := by decide +kernel
theorem dX5_copyFrom_37 : decode cX5_copyFrom 37 = .ok (.aload_n 0, 1) := by decide +kernel
theorem dX5_copyFrom_38 : decode cX5_copyFrom 38 = .ok (.aload_n 1, 1) := by decide +kernel
theorem dX5_copyFrom_39 : decode cX5_copyFrom 39 = .ok (.getfield 24, 3) := by decide +kernel
theorem dX5_copyFrom_42 : decode cX5_copyFrom 42 = .ok (.putfield 24, 3) := by decide +kernel
theorem dX5_copyFrom_45 : decode cX5_copyFrom 45 = .ok (.aload_n 0, 1) := by decide +kernel
theorem dX5_copyFrom_46 : decode cX5_copyFrom 46 = .ok (.aload_n 1, 1) := by decide +kernel
theorem dX5_copyFrom_47 : decode cX5_copyFrom 47 = .ok (.getfield 27, 3) := by decide +kernel
theorem dX5_copyFrom_50 : decode cX5_copyFrom 50 = .ok (.putfield 27, 3) := by decide +kernel
theorem dX5_copyFrom_53 : decode cX5_copyFrom 53 = .ok (.aload_n 1, 1) := by decide +kernel
theorem dX5_copyFrom_54 : decode cX5_copyFrom 54 = .ok (.getfield 30, 3) := by decide +kernel
theorem dX5_copyFrom_57 : decode cX5_copyFrom 57 = .ok (.aload_n 0, 1) := by decide +kernel
theorem dX5_copyFrom_58 : decode cX5_copyFrom 58 = .ok (.getfield 30, 3) := by decide +kernel
theorem dX5_copyFrom_61 : decode cX5_copyFrom 61 = .ok (.invokestatic 58, 3) := by decide +kernel
theorem dX5_copyFrom_64 : decode cX5_copyFrom 64 = .ok (.aload_n 1, 1) := by decide +kernel
theorem dX5_copyFrom_65 : decode cX5_copyFrom 65 = .ok (.getfield 34, 3) := by decide +kernel
theorem dX5_copyFrom_68 : decode cX5_copyFrom 68 = .ok (.aload_n 0, 1) := by decide +kernel
theorem dX5_copyFrom_69 : decode cX5_copyFrom 69 = .ok (.getfield 34, 3) := by decide +kernel
theorem dX5_copyFrom_72 : decode cX5_copyFrom 72 = .ok (.invokestatic 58, 3) := by decide +kernel
theorem dX5_copyFrom_75 : decode cX5_copyFrom 75 = .ok (.aload_n 0, 1) := by decide +kernel
theorem dX5_copyFrom_76 : decode cX5_copyFrom 76 = .ok (.getfield 40, 3) := by decide +kernel
theorem dX5_copyFrom_79 : decode cX5_copyFrom 79 = .ok (.aload_n 1, 1) := by decide +kernel
theorem dX5_copyFrom_80 : decode cX5_copyFrom 80 = .ok (.getfield 40, 3) := by decide +kernel
theorem dX5_copyFrom_83 : decode cX5_copyFrom 83 = .ok (.invokevirtual 62, 3) := by decide +kernel
theorem dX5_copyFrom_86 : decode cX5_copyFrom 86 = .ok (.aload_n 0, 1) := by decide +kernel
theorem dX5_copyFrom_87 : decode cX5_copyFrom 87 = .ok (.getfield 47, 3) := by decide +kernel
theorem dX5_copyFrom_90 : decode cX5_copyFrom 90 = .ok (.aload_n 1, 1) := by decide +kernel
theorem dX5_copyFrom_91 : decode cX5_copyFrom 91 = .ok (.getfield 47, 3) := by decide +kernel
theorem dX5_copyFrom_94 : decode cX5_copyFrom 94 = .ok (.invokevirtual 66, 3) := by decide +kernel
theorem dX5_copyFrom_97 : decode cX5_copyFrom 97 = .ok (.aload_n 0, 1) := by decide +kernel
theorem dX5_copyFrom_98 : decode cX5_copyFrom 98 = .ok (.getfield 54, 3) := by decide +kernel
theorem dX5_copyFrom_101 : decode cX5_copyFrom 101 = .ok (.aload_n 1, 1) := by decide +kernel
theorem dX5_copyFrom_102 : decode cX5_copyFrom 102 = .ok (.getfield 54, 3) := by decide +kernel
theorem dX5_copyFrom_105 : decode cX5_copyFrom 105 = .ok (.invokevirtual 69, 3) := by decide +kernel
theorem dX5_copyFrom_108 : decode cX5_copyFrom 108 = .ok (.return_, 1) := by decide +kernel
theorem dX5_changeSize_0 : decode cX5_changeSize 0 = .ok (.aload_n 0, 1) := by decide +kernel
theorem dX5_changeSize_1 : decode cX5_changeSize 1 = .ok (.getfield 30, 3) := by decide +kernel
theorem dX5_changeSize_4 : decode cX5_changeSize 4 = .ok (.iload_n 1, 1) := by decide +kernel
theorem dX5_changeSize_5 : decode cX5_changeSize 5 = .ok (.invokestatic 72, 3) := by decide +kernel
theorem dX5_changeSize_8 : decode cX5_changeSize 8 = .ok (.istore_n 3, 1) := by decide +kernel
theorem dX5_changeSize_9 : decode cX5_changeSize 9 = .ok (.aload_n 0, 1) := by decide +kernel
theorem dX5_changeSize_10 : decode cX5_changeSize 10 = .ok (.getfield 30, 3) := by decide +kernel
theorem dX5_changeSize_13 : decode cX5_changeSize 13 = .ok (.iload_n 1, 1) := by decide +kernel
theorem dX5_changeSize_14 : decode cX5_changeSize 14 = .ok (.iload_n 2, 1) := by decide +kernel
theorem dX5_changeSize_15 : decode cX5_changeSize 15 = .ok (.invokestatic 76, 3) := by decide +kernel
theorem dX5_changeSize_18 : decode cX5_changeSize 18 = .ok (.iload_n 3, 1) := by decide +kernel
theorem dX5_changeSize_19 : decode cX5_changeSize 19 = .ok (.ireturn, 1) := by decide +kernel
theorem dX5_canPass_0 : decode cX5_canPass 0 = .ok (.aload_n 0, 1) := by decide +kernel
theorem dX5_canPass_1 : decode cX5_canPass 1 = .ok (.getfield 9, 3) := by decide +kernel
theorem dX5_canPass_4 : decode cX5_canPass 4 = .ok (.iload_n 1, 1) := by decide +kernel
theorem dX5_canPass_5 : decode cX5_canPass 5 = .ok (.iadd, 1) := by decide +kernel
theorem dX5_canPass_6 : decode cX5_canPass 6 = .ok (.sipush 999, 3) := by decide +kernel
theorem dX5_canPass_9 : decode cX5_canPass 9 = .ok (.if_icmp .gt 7, 3) := by decide +kernel
theorem dX5_canPass_12 : decode cX5_canPass 12 = .ok (.iconst 1, 1) := by decide +kernel
theorem dX5_canPass_13 : decode cX5_canPass 13 = .ok (.goto 4, 3) := by decide +kernel
theorem dX5_canPass_16 : decode cX5_canPass 16 = .ok (.iconst 0, 1) := by decide +kernel
theorem dX5_canPass_17 : decode cX5_canPass 17 = .ok (.ireturn, 1) := by decide +kernel
theorem dX5_letPass_0 : decode cX5_letPass 0 = .ok (.aload_n 0, 1) := by decide +kernel
theorem dX5_letPass_1 : decode cX5_letPass 1 = .ok (.dup, 1) := by decide +kernel
theorem dX5_letPass_2 : decode cX5_letPass 2 = .ok (.getfield 9, 3) := by decide +kernel
theorem dX5_letPass_5 : decode cX5_letPass 5 = .ok (.iload_n 1, 1) := by decide +kernel
theorem dX5_letPass_6 : decode cX5_letPass 6 = .ok (.iadd, 1) := by decide +kernel
theorem dX5_letPass_7 : decode cX5_letPass 7 = .ok (.putfield 9, 3) := by decide +kernel
theorem dX5_letPass_10 : decode cX5_letPass 10 = .ok (.iconst 0, 1) := by decide +kernel
theorem dX5_letPass_11 : decode cX5_letPass 11 = .ok (.istore_n 2, 1) := by decide +kernel
theorem dX5_letPass_12 : decode cX5_letPass 12 = .ok (.iload_n 2, 1) := by decide +kernel
theorem dX5_letPass_13 : decode cX5_letPass 13 = .ok (.bipush 8, 2) := by decide +kernel
theorem dX5_letPass_15 : decode cX5_letPass 15 = .ok (.if_icmp .ge 18, 3) := by decide +kernel
theorem dX5_letPass_18 : decode cX5_letPass 18 = .ok (.aload_n 0, 1) := by decide +kernel
theorem dX5_letPass_19 : decode cX5_letPass 19 = .ok (.getfield 34, 3) := by decide +kernel
theorem dX5_letPass_22 : decode cX5_letPass 22 = .ok (.iload_n 2, 1) := by decide +kernel
theorem dX5_letPass_23 : decode cX5_letPass 23 = .ok (.iconst 0, 1) := by decide +kernel
theorem dX5_letPass_24 : decode cX5_letPass 24 = .ok (.invokestatic 76, 3) := by decide +kernel
theorem dX5_letPass_27 : decode cX5_letPass 27 = .ok (.iinc 2 1, 3) := by decide +kernel
theorem dX5_letPass_30 : decode cX5_letPass 30 = .ok (.goto (-18), 3) := by decide +kernel
theorem dX5_letPass_33 : decode cX5_letPass 33 = .ok (.return_, 1) := by decide +kernel
theorem dX5_canRehearse_0 : decode cX5_canRehearse 0 = .ok (.aload_n 0, 1) := by decide +kernel
theorem dX5_canRehearse_1 : decode cX5_canRehearse 1 = .ok (.getfield 47, 3) := by decide +kernel
theorem dX5_canRehearse_4 : decode cX5_canRehearse 4 = .ok (.aload_n 0, 1) := by decide +kernel
theorem dX5_canRehearse_5 : decode cX5_canRehearse 5 = .ok (.getfield 9, 3) := by decide +kernel
theorem dX5_canRehearse_8 : decode cX5_canRehearse 8 = .ok (.iload_n 1, 1) := by decide +kernel
theorem dX5_canRehearse_9 : decode cX5_canRehearse 9 = .ok (.invokevirtual 80, 3) := by decide +kernel
theorem dX5_canRehearse_12 : decode cX5_canRehearse 12 = .ok (.iload_n 2, 1) := by decide +kernel
theorem dX5_canRehearse_13 : decode cX5_canRehearse 13 = .ok (.invokestatic 84, 3) := by decide +kernel
theorem dX5_canRehearse_16 : decode cX5_canRehearse 16 = .ok (.ifCond .ne 7, 3) := by decide +kernel
theorem dX5_canRehearse_19 : decode cX5_canRehearse 19 = .ok (.iconst 1, 1) := by decide +kernel
theorem dX5_canRehearse_20 : decode cX5_canRehearse 20 = .ok (.goto 4, 3) := by decide +kernel
theorem dX5_canRehearse_23 : decode cX5_canRehearse 23 = .ok (.iconst 0, 1) := by decide +kernel
theorem dX5_canRehearse_24 : decode cX5_canRehearse 24 = .ok (.ireturn, 1) := by decide +kernel
theorem dX5_letRehearse_0 : decode cX5_letRehearse 0 = .ok (.aload_n 0, 1) := by decide +kernel
theorem dX5_letRehearse_1 : decode cX5_letRehearse 1 = .ok (.dup, 1) := by decide +kernel
theorem dX5_letRehearse_2 : decode cX5_letRehearse 2 = .ok (.getfield 27, 3) := by decide +kernel
theorem dX5_letRehearse_5 : decode cX5_letRehearse 5 = .ok (.iconst 1, 1) := by decide +kernel
theorem dX5_letRehearse_6 : decode cX5_letRehearse 6 = .ok (.iadd, 1) := by decide +kernel
theorem dX5_letRehearse_7 : decode cX5_letRehearse 7 = .ok (.putfield 27, 3) := by decide +kernel
theorem dX5_letRehearse_10 : decode cX5_letRehearse 10 = .ok (.aload_n 0, 1) := by decide +kernel
theorem dX5_letRehearse_11 : decode cX5_letRehearse 11 = .ok (.getfield 34, 3) := by decide +kernel
theorem dX5_letRehearse_14 : decode cX5_letRehearse 14 = .ok (.iload_n 1, 1) := by decide +kernel
theorem dX5_letRehearse_15 : decode cX5_letRehearse 15 = .ok (.invokestatic 72, 3) := by decide +kernel
theorem dX5_letRehearse_18 : decode cX5_letRehearse 18 = .ok (.iconst 1, 1) := by decide +kernel
theorem dX5_letRehearse_19 : decode cX5_letRehearse 19 = .ok (.iadd, 1) := by decide +kernel
theorem dX5_letRehearse_20 : decode cX5_letRehearse 20 = .ok (.istore 4, 2) := by decide +kernel
theorem dX5_letRehearse_22 : decode cX5_letRehearse 22 = .ok (.aload_n 0, 1) := by decide +kernel
theorem dX5_letRehearse_23 : decode cX5_letRehearse 23 = .ok (.getfield 34, 3) := by decide +kernel
theorem dX5_letRehearse_26 : decode cX5_letRehearse 26 = .ok (.iload_n 1, 1) := by decide +kernel
theorem dX5_letRehearse_27 : decode cX5_letRehearse 27 = .ok (.iload 4, 2) := by decide +kernel
theorem dX5_letRehearse_29 : decode cX5_letRehearse 29 = .ok (.invokestatic 76, 3) := by decide +kernel
theorem dX5_letRehearse_32 : decode cX5_letRehearse 32 = .ok (.iload 4, 2) := by decide +kernel
theorem dX5_letRehearse_34 : decode cX5_letRehearse 34 = .ok (.iconst 3, 1) := by decide +kernel
theorem dX5_letRehearse_35 : decode cX5_letRehearse 35 = .ok (.if_icmp .le 20, 3) := by decide +kernel
theorem dX5_letRehearse_38 : decode cX5_letRehearse 38 = .ok (.aload_n 0, 1) := by decide +kernel
theorem dX5_letRehearse_39 : decode cX5_letRehearse 39 = .ok (.iload_n 1, 1) := by decide +kernel
theorem dX5_letRehearse_40 : decode cX5_letRehearse 40 = .ok (.getstatic 88, 3) := by decide +kernel
theorem dX5_letRehearse_43 : decode cX5_letRehearse 43 = .ok (.iload_n 2, 1) := by decide +kernel
theorem dX5_letRehearse_44 : decode cX5_letRehearse 44 = .ok (.invokestatic 72, 3) := by decide +kernel
theorem dX5_letRehearse_47 : decode cX5_letRehearse 47 = .ok (.iconst 2, 1) := by decide +kernel
theorem dX5_letRehearse_48 : decode cX5_letRehearse 48 = .ok (.iload_n 3, 1) := by decide +kernel
theorem dX5_letRehearse_49 : decode cX5_letRehearse 49 = .ok (.imul, 1) := by decide +kernel
theorem dX5_letRehearse_50 : decode cX5_letRehearse 50 = .ok (.invokevirtual 91, 3) := by decide +kernel
theorem dX5_letRehearse_53 : decode cX5_letRehearse 53 = .ok (.iconst 0, 1) := by decide +kernel
theorem dX5_letRehearse_54 : decode cX5_letRehearse 54 = .ok (.ireturn, 1) := by decide +kernel
theorem dX5_letRehearse_55 : decode cX5_letRehearse 55 = .ok (.aload_n 0, 1) := by decide +kernel
theorem dX5_letRehearse_56 : decode cX5_letRehearse 56 = .ok (.getfield 40, 3) := by decide +kernel
theorem dX5_letRehearse_59 : decode cX5_letRehearse 59 = .ok (.iload_n 1, 1) := by decide +kernel
theorem dX5_letRehearse_60 : decode cX5_letRehearse 60 = .ok (.iload_n 2, 1) := by decide +kernel
theorem dX5_letRehearse_61 : decode cX5_letRehearse 61 = .ok (.iload_n 3, 1) := by decide +kernel
theorem dX5_letRehearse_62 : decode cX5_letRehearse 62 = .ok (.aload_n 0, 1) := by decide +kernel
theorem dX5_letRehearse_63 : decode cX5_letRehearse 63 = .ok (.getfield 9, 3) := by decide +kernel
theorem dX5_letRehearse_66 : decode cX5_letRehearse 66 = .ok (.invokevirtual 95, 3) := by decide +kernel
theorem dX5_letRehearse_69 : decode cX5_letRehearse 69 = .ok (.iconst 1, 1) := by decide +kernel
theorem dX5_letRehearse_70 : decode cX5_letRehearse 70 = .ok (.ireturn, 1) := by decide +kernel
theorem dX5_noteInjury_0 : decode cX5_noteInjury 0 = .ok (.aload_n 0, 1) := by decide +kernel
theorem dX5_noteInjury_1 : decode cX5_noteInjury 1 = .ok (.dup, 1) := by decide +kernel
theorem dX5_noteInjury_2 : decode cX5_noteInjury 2 = .ok (.getfield 24, 3) := by decide +kernel
theorem dX5_noteInjury_5 : decode cX5_noteInjury 5 = .ok (.iconst 1, 1) := by decide +kernel
theorem dX5_noteInjury_6 : decode cX5_noteInjury 6 = .ok (.iadd, 1) := by decide +kernel
theorem dX5_noteInjury_7 : decode cX5_noteInjury 7 = .ok (.putfield 24, 3) := by decide +kernel
theorem dX5_noteInjury_10 : decode cX5_noteInjury 10 = .ok (.aload_n 0, 1) := by decide +kernel
theorem dX5_noteInjury_11 : decode cX5_noteInjury 11 = .ok (.getfield 47, 3) := by decide +kernel
theorem dX5_noteInjury_14 : decode cX5_noteInjury 14 = .ok (.iload_n 1, 1) := by decide +kernel
theorem dX5_noteInjury_15 : decode cX5_noteInjury 15 = .ok (.iload_n 2, 1) := by decide +kernel
theorem dX5_noteInjury_16 : decode cX5_noteInjury 16 = .ok (.aload_n 0, 1) := by decide +kernel
theorem dX5_noteInjury_17 : decode cX5_noteInjury 17 = .ok (.getfield 9, 3) := by decide +kernel
theorem dX5_noteInjury_20 : decode cX5_noteInjury 20 = .ok (.iload_n 3, 1) := by decide +kernel
theorem dX5_noteInjury_21 : decode cX5_noteInjury 21 = .ok (.iadd, 1) := by decide +kernel
theorem dX5_noteInjury_22 : decode cX5_noteInjury 22 = .ok (.iconst 1, 1) := by decide +kernel
theorem dX5_noteInjury_23 : decode cX5_noteInjury 23 = .ok (.isub, 1) := by decide +kernel
theorem dX5_noteInjury_24 : decode cX5_noteInjury 24 = .ok (.invokevirtual 99, 3) := by decide +kernel
theorem dX5_noteInjury_27 : decode cX5_noteInjury 27 = .ok (.return_, 1) := by decide +kernel
theorem dX5_scenesBarredFor_0 : decode cX5_scenesBarredFor 0 = .ok (.aload_n 0, 1) := by decide +kernel
theorem dX5_scenesBarredFor_1 : decode cX5_scenesBarredFor 1 = .ok (.getfield 47, 3) := by decide +kernel
theorem dX5_scenesBarredFor_4 : decode cX5_scenesBarredFor 4 = .ok (.aload_n 0, 1) := by decide +kernel
theorem dX5_scenesBarredFor_5 : decode cX5_scenesBarredFor 5 = .ok (.getfield 9, 3) := by decide +kernel
theorem dX5_scenesBarredFor_8 : decode cX5_scenesBarredFor 8 = .ok (.iload_n 1, 1) := by decide +kernel
theorem dX5_scenesBarredFor_9 : decode cX5_scenesBarredFor 9 = .ok (.invokevirtual 80, 3) := by decide +kernel
theorem dX5_scenesBarredFor_12 : decode cX5_scenesBarredFor 12 = .ok (.istore_n 2, 1) := by decide +kernel
theorem dX5_scenesBarredFor_13 : decode cX5_scenesBarredFor 13 = .ok (.iconst 0, 1) := by decide +kernel
theorem dX5_scenesBarredFor_14 : decode cX5_scenesBarredFor 14 = .ok (.istore_n 3, 1) := by decide +kernel
theorem dX5_scenesBarredFor_15 : decode cX5_scenesBarredFor 15 = .ok (.iconst 0, 1) := by decide +kernel
theorem dX5_scenesBarredFor_16 : decode cX5_scenesBarredFor 16 = .ok (.istore 4, 2) := by decide +kernel
theorem dX5_scenesBarredFor_18 : decode cX5_scenesBarredFor 18 = .ok (.iload 4, 2) := by decide +kernel
theorem dX5_scenesBarredFor_20 : decode cX5_scenesBarredFor 20 = .ok (.aload_n 0, 1) := by decide +kernel
theorem dX5_scenesBarredFor_21 : decode cX5_scenesBarredFor 21 = .ok (.getfield 54, 3) := by decide +kernel
theorem dX5_scenesBarredFor_24 : decode cX5_scenesBarredFor 24 = .ok (.getfield 101, 3) := by decide +kernel
theorem dX5_scenesBarredFor_27 : decode cX5_scenesBarredFor 27 = .ok (.if_icmp .ge 40, 3) := by decide +kernel
theorem dX5_scenesBarredFor_30 : decode cX5_scenesBarredFor 30 = .ok (.aload_n 0, 1) := by decide +kernel
theorem dX5_scenesBarredFor_31 : decode cX5_scenesBarredFor 31 = .ok (.getfield 54, 3) := by decide +kernel
theorem dX5_scenesBarredFor_34 : decode cX5_scenesBarredFor 34 = .ok (.iload 4, 2) := by decide +kernel
theorem dX5_scenesBarredFor_36 : decode cX5_scenesBarredFor 36 = .ok (.invokevirtual 104, 3) := by decide +kernel
theorem dX5_scenesBarredFor_39 : decode cX5_scenesBarredFor 39 = .ok (.ifCond .ne 22, 3) := by decide +kernel
theorem dX5_scenesBarredFor_42 : decode cX5_scenesBarredFor 42 = .ok (.iload_n 2, 1) := by decide +kernel
theorem dX5_scenesBarredFor_43 : decode cX5_scenesBarredFor 43 = .ok (.aload_n 0, 1) := by decide +kernel
theorem dX5_scenesBarredFor_44 : decode cX5_scenesBarredFor 44 = .ok (.getfield 54, 3) := by decide +kernel
theorem dX5_scenesBarredFor_47 : decode cX5_scenesBarredFor 47 = .ok (.iload 4, 2) := by decide +kernel
theorem dX5_scenesBarredFor_49 : decode cX5_scenesBarredFor 49 = .ok (.invokevirtual 108, 3) := by decide +kernel
theorem dX5_scenesBarredFor_52 : decode cX5_scenesBarredFor 52 = .ok (.invokestatic 84, 3) := by decide +kernel
theorem dX5_scenesBarredFor_55 : decode cX5_scenesBarredFor 55 = .ok (.ifCond .eq 6, 3) := by decide +kernel
theorem dX5_scenesBarredFor_58 : decode cX5_scenesBarredFor 58 = .ok (.iinc 3 1, 3) := by decide +kernel
theorem dX5_scenesBarredFor_61 : decode cX5_scenesBarredFor 61 = .ok (.iinc 4 1, 3) := by decide +kernel
theorem dX5_scenesBarredFor_64 : decode cX5_scenesBarredFor 64 = .ok (.goto (-46), 3) := by decide +kernel
theorem dX5_scenesBarredFor_67 : decode cX5_scenesBarredFor 67 = .ok (.iload_n 3, 1) := by decide +kernel
theorem dX5_scenesBarredFor_68 : decode cX5_scenesBarredFor 68 = .ok (.ireturn, 1) := by decide +kernel
theorem dX5_costOf_0 : decode cX5_costOf 0 = .ok (.iload_n 2, 1) := by decide +kernel
theorem dX5_costOf_1 : decode cX5_costOf 1 = .ok (.iload_n 1, 1) := by decide +kernel
theorem dX5_costOf_2 : decode cX5_costOf 2 = .ok (.imul, 1) := by decide +kernel
theorem dX5_costOf_3 : decode cX5_costOf 3 = .ok (.iload_n 1, 1) := by decide +kernel
theorem dX5_costOf_4 : decode cX5_costOf 4 = .ok (.imul, 1) := by decide +kernel
theorem dX5_costOf_5 : decode cX5_costOf 5 = .ok (.istore_n 3, 1) := by decide +kernel
theorem dX5_costOf_6 : decode cX5_costOf 6 = .ok (.iload_n 3, 1) := by decide +kernel
theorem dX5_costOf_7 : decode cX5_costOf 7 = .ok (.iload_n 3, 1) := by decide +kernel
theorem dX5_costOf_8 : decode cX5_costOf 8 = .ok (.aload_n 0, 1) := by decide +kernel
theorem dX5_costOf_9 : decode cX5_costOf 9 = .ok (.getfield 24, 3) := by decide +kernel
theorem dX5_costOf_12 : decode cX5_costOf 12 = .ok (.imul, 1) := by decide +kernel
theorem dX5_costOf_13 : decode cX5_costOf 13 = .ok (.bipush 10, 2) := by decide +kernel
theorem dX5_costOf_15 : decode cX5_costOf 15 = .ok (.idiv, 1) := by decide +kernel
theorem dX5_costOf_16 : decode cX5_costOf 16 = .ok (.iadd, 1) := by decide +kernel
theorem dX5_costOf_17 : decode cX5_costOf 17 = .ok (.ireturn, 1) := by decide +kernel
theorem dX5_buyInsurance_0 : decode cX5_buyInsurance 0 = .ok (.aload_n 0, 1) := by decide +kernel
theorem dX5_buyInsurance_1 : decode cX5_buyInsurance 1 = .ok (.dup, 1) := by decide +kernel
theorem dX5_buyInsurance_2 : decode cX5_buyInsurance 2 = .ok (.getfield 15, 3) := by decide +kernel
theorem dX5_buyInsurance_5 : decode cX5_buyInsurance 5 = .ok (.aload_n 0, 1) := by decide +kernel
theorem dX5_buyInsurance_6 : decode cX5_buyInsurance 6 = .ok (.iload_n 1, 1) := by decide +kernel
theorem dX5_buyInsurance_7 : decode cX5_buyInsurance 7 = .ok (.iload_n 2, 1) := by decide +kernel
theorem dX5_buyInsurance_8 : decode cX5_buyInsurance 8 = .ok (.invokevirtual 112, 3) := by decide +kernel
theorem dX5_buyInsurance_11 : decode cX5_buyInsurance 11 = .ok (.isub, 1) := by decide +kernel
theorem dX5_buyInsurance_12 : decode cX5_buyInsurance 12 = .ok (.putfield 15, 3) := by decide +kernel
theorem dX5_buyInsurance_15 : decode cX5_buyInsurance 15 = .ok (.aload_n 0, 1) := by decide +kernel
theorem dX5_buyInsurance_16 : decode cX5_buyInsurance 16 = .ok (.iload_n 1, 1) := by decide +kernel
theorem dX5_buyInsurance_17 : decode cX5_buyInsurance 17 = .ok (.putfield 18, 3) := by decide +kernel
theorem dX5_buyInsurance_20 : decode cX5_buyInsurance 20 = .ok (.aload_n 0, 1) := by decide +kernel
theorem dX5_buyInsurance_21 : decode cX5_buyInsurance 21 = .ok (.aload_n 0, 1) := by decide +kernel
theorem dX5_buyInsurance_22 : decode cX5_buyInsurance 22 = .ok (.getfield 9, 3) := by decide +kernel
theorem dX5_buyInsurance_25 : decode cX5_buyInsurance 25 = .ok (.iload_n 2, 1) := by decide +kernel
theorem dX5_buyInsurance_26 : decode cX5_buyInsurance 26 = .ok (.iadd, 1) := by decide +kernel
theorem dX5_buyInsurance_27 : decode cX5_buyInsurance 27 = .ok (.iconst 1, 1) := by decide +kernel
theorem dX5_buyInsurance_28 : decode cX5_buyInsurance 28 = .ok (.isub, 1) := by decide +kernel
theorem dX5_buyInsurance_29 : decode cX5_buyInsurance 29 = .ok (.putfield 21, 3) := by decide +kernel
theorem dX5_buyInsurance_32 : decode cX5_buyInsurance 32 = .ok (.return_, 1) := by decide +kernel
theorem dX5_stepOn_0 : decode cX5_stepOn 0 = .ok (.iload_n 1, 1) := by decide +kernel
theorem dX5_stepOn_1 : decode cX5_stepOn 1 = .ok (.aload_n 0, 1) := by decide +kernel
theorem dX5_stepOn_2 : decode cX5_stepOn 2 = .ok (.getfield 21, 3) := by decide +kernel
theorem dX5_stepOn_5 : decode cX5_stepOn 5 = .ok (.if_icmp .gt 10, 3) := by decide +kernel
theorem dX5_stepOn_8 : decode cX5_stepOn 8 = .ok (.aload_n 0, 1) := by decide +kernel
theorem dX5_stepOn_9 : decode cX5_stepOn 9 = .ok (.getfield 18, 3) := by decide +kernel
theorem dX5_stepOn_12 : decode cX5_stepOn 12 = .ok (.goto 4, 3) := by decide +kernel
theorem dX5_stepOn_15 : decode cX5_stepOn 15 = .ok (.iconst 0, 1) := by decide +kernel
theorem dX5_stepOn_16 : decode cX5_stepOn 16 = .ok (.ireturn, 1) := by decide +kernel
theorem dX5_lastInsuredDay_0 : decode cX5_lastInsuredDay 0 = .ok (.aload_n 0, 1) := by decide +kernel
theorem dX5_lastInsuredDay_1 : decode cX5_lastInsuredDay 1 = .ok (.getfield 9, 3) := by decide +kernel
theorem dX5_lastInsuredDay_4 : decode cX5_lastInsuredDay 4 = .ok (.aload_n 0, 1) := by decide +kernel
theorem dX5_lastInsuredDay_5 : decode cX5_lastInsuredDay 5 = .ok (.getfield 21, 3) := by decide +kernel
theorem dX5_lastInsuredDay_8 : decode cX5_lastInsuredDay 8 = .ok (.if_icmp .gt 10, 3) := by decide +kernel
theorem dX5_lastInsuredDay_11 : decode cX5_lastInsuredDay 11 = .ok (.aload_n 0, 1) := by decide +kernel
theorem dX5_lastInsuredDay_12 : decode cX5_lastInsuredDay 12 = .ok (.getfield 21, 3) := by decide +kernel
theorem dX5_lastInsuredDay_15 : decode cX5_lastInsuredDay 15 = .ok (.goto 4, 3) := by decide +kernel
theorem dX5_lastInsuredDay_18 : decode cX5_lastInsuredDay 18 = .ok (.iconst (-1), 1) := by decide +kernel
theorem dX5_lastInsuredDay_19 : decode cX5_lastInsuredDay 19 = .ok (.ireturn, 1) := by decide +kernel
theorem dX5_canShoot_0 : decode cX5_canShoot 0 = .ok (.aload_n 0, 1) := by decide +kernel
theorem dX5_canShoot_1 : decode cX5_canShoot 1 = .ok (.aload_n 0, 1) := by decide +kernel
theorem dX5_canShoot_2 : decode cX5_canShoot 2 = .ok (.getfield 9, 3) := by decide +kernel
theorem dX5_canShoot_5 : decode cX5_canShoot 5 = .ok (.iload_n 1, 1) := by decide +kernel
theorem dX5_canShoot_6 : decode cX5_canShoot 6 = .ok (.iload_n 2, 1) := by decide +kernel
theorem dX5_canShoot_7 : decode cX5_canShoot 7 = .ok (.invokevirtual 115, 3) := by decide +kernel
theorem dX5_canShoot_10 : decode cX5_canShoot 10 = .ok (.ifCond .ne 7, 3) := by decide +kernel
theorem dX5_canShoot_13 : decode cX5_canShoot 13 = .ok (.iconst 1, 1) := by decide +kernel
theorem dX5_canShoot_14 : decode cX5_canShoot 14 = .ok (.goto 4, 3) := by decide +kernel
theorem dX5_canShoot_17 : decode cX5_canShoot 17 = .ok (.iconst 0, 1) := by decide +kernel
theorem dX5_canShoot_18 : decode cX5_canShoot 18 = .ok (.ireturn, 1) := by decide +kernel
theorem dX5_letShoot_0 : decode cX5_letShoot 0 = .ok (.aload_n 0, 1) := by decide +kernel
theorem dX5_letShoot_1 : decode cX5_letShoot 1 = .ok (.getfield 54, 3) := by decide +kernel
theorem dX5_letShoot_4 : decode cX5_letShoot 4 = .ok (.iload_n 1, 1) := by decide +kernel
theorem dX5_letShoot_5 : decode cX5_letShoot 5 = .ok (.iload_n 2, 1) := by decide +kernel
theorem dX5_letShoot_6 : decode cX5_letShoot 6 = .ok (.aload_n 0, 1) := by decide +kernel
theorem dX5_letShoot_7 : decode cX5_letShoot 7 = .ok (.getfield 9, 3) := by decide +kernel
theorem dX5_letShoot_10 : decode cX5_letShoot 10 = .ok (.invokevirtual 119, 3) := by decide +kernel
theorem dX5_letShoot_13 : decode cX5_letShoot 13 = .ok (.return_, 1) := by decide +kernel
theorem dX5_reasonOn_0 : decode cX5_reasonOn 0 = .ok (.aload_n 0, 1) := by decide +kernel
theorem dX5_reasonOn_1 : decode cX5_reasonOn 1 = .ok (.getfield 54, 3) := by decide +kernel
theorem dX5_reasonOn_4 : decode cX5_reasonOn 4 = .ok (.iload_n 2, 1) := by decide +kernel
theorem dX5_reasonOn_5 : decode cX5_reasonOn 5 = .ok (.invokevirtual 108, 3) := by decide +kernel
theorem dX5_reasonOn_8 : decode cX5_reasonOn 8 = .ok (.istore 4, 2) := by decide +kernel
theorem dX5_reasonOn_10 : decode cX5_reasonOn 10 = .ok (.aload_n 0, 1) := by decide +kernel
theorem dX5_reasonOn_11 : decode cX5_reasonOn 11 = .ok (.getfield 54, 3) := by decide +kernel
theorem dX5_reasonOn_14 : decode cX5_reasonOn 14 = .ok (.iload_n 2, 1) := by decide +kernel
theorem dX5_reasonOn_15 : decode cX5_reasonOn 15 = .ok (.invokevirtual 122, 3) := by decide +kernel
theorem dX5_reasonOn_18 : decode cX5_reasonOn 18 = .ok (.istore 5, 2) := by decide +kernel
theorem dX5_reasonOn_20 : decode cX5_reasonOn 20 = .ok (.aload_n 0, 1) := by decide +kernel
theorem dX5_reasonOn_21 : decode cX5_reasonOn 21 = .ok (.getfield 54, 3) := by decide +kernel
theorem dX5_reasonOn_24 : decode cX5_reasonOn 24 = .ok (.iload_n 2, 1) := by decide +kernel
theorem dX5_reasonOn_25 : decode cX5_reasonOn 25 = .ok (.invokevirtual 104, 3) := by decide +kernel
theorem dX5_reasonOn_28 : decode cX5_reasonOn 28 = .ok (.ifCond .eq 5, 3) := by decide +kernel
theorem dX5_reasonOn_31 : decode cX5_reasonOn 31 = .ok (.iconst 1, 1) := by decide +kernel
theorem dX5_reasonOn_32 : decode cX5_reasonOn 32 = .ok (.ireturn, 1) := by decide +kernel
theorem dX5_reasonOn_33 : decode cX5_reasonOn 33 = .ok (.aload_n 0, 1) := by decide +kernel
theorem dX5_reasonOn_34 : decode cX5_reasonOn 34 = .ok (.iload_n 3, 1) := by decide +kernel
theorem dX5_reasonOn_35 : decode cX5_reasonOn 35 = .ok (.aload_n 0, 1) := by decide +kernel
theorem dX5_reasonOn_36 : decode cX5_reasonOn 36 = .ok (.getfield 54, 3) := by decide +kernel
theorem dX5_reasonOn_39 : decode cX5_reasonOn 39 = .ok (.iload_n 2, 1) := by decide +kernel
theorem dX5_reasonOn_40 : decode cX5_reasonOn 40 = .ok (.invokevirtual 125, 3) := by decide +kernel
theorem dX5_reasonOn_43 : decode cX5_reasonOn 43 = .ok (.invokevirtual 128, 3) := by decide +kernel
theorem dX5_reasonOn_46 : decode cX5_reasonOn 46 = .ok (.ifCond .ne 5, 3) := by decide +kernel
theorem dX5_reasonOn_49 : decode cX5_reasonOn 49 = .ok (.iconst 2, 1) := by decide +kernel
theorem dX5_reasonOn_50 : decode cX5_reasonOn 50 = .ok (.ireturn, 1) := by decide +kernel
theorem dX5_reasonOn_51 : decode cX5_reasonOn 51 = .ok (.aload_n 0, 1) := by decide +kernel
theorem dX5_reasonOn_52 : decode cX5_reasonOn 52 = .ok (.iload_n 1, 1) := by decide +kernel
theorem dX5_reasonOn_53 : decode cX5_reasonOn 53 = .ok (.invokevirtual 131, 3) := by decide +kernel
theorem dX5_reasonOn_56 : decode cX5_reasonOn 56 = .ok (.iload 5, 2) := by decide +kernel
theorem dX5_reasonOn_58 : decode cX5_reasonOn 58 = .ok (.if_icmp .ge 5, 3) := by decide +kernel
theorem dX5_reasonOn_61 : decode cX5_reasonOn 61 = .ok (.iconst 3, 1) := by decide +kernel
theorem dX5_reasonOn_62 : decode cX5_reasonOn 62 = .ok (.ireturn, 1) := by decide +kernel
theorem dX5_reasonOn_63 : decode cX5_reasonOn 63 = .ok (.aload_n 0, 1) := by decide +kernel
theorem dX5_reasonOn_64 : decode cX5_reasonOn 64 = .ok (.getfield 47, 3) := by decide +kernel
theorem dX5_reasonOn_67 : decode cX5_reasonOn 67 = .ok (.iload_n 1, 1) := by decide +kernel
theorem dX5_reasonOn_68 : decode cX5_reasonOn 68 = .ok (.iload_n 3, 1) := by decide +kernel
theorem dX5_reasonOn_69 : decode cX5_reasonOn 69 = .ok (.invokevirtual 80, 3) := by decide +kernel
theorem dX5_reasonOn_72 : decode cX5_reasonOn 72 = .ok (.iload 4, 2) := by decide +kernel
theorem dX5_reasonOn_74 : decode cX5_reasonOn 74 = .ok (.invokestatic 84, 3) := by decide +kernel
theorem dX5_reasonOn_77 : decode cX5_reasonOn 77 = .ok (.ifCond .eq 5, 3) := by decide +kernel
theorem dX5_reasonOn_80 : decode cX5_reasonOn 80 = .ok (.iconst 4, 1) := by decide +kernel
theorem dX5_reasonOn_81 : decode cX5_reasonOn 81 = .ok (.ireturn, 1) := by decide +kernel
theorem dX5_reasonOn_82 : decode cX5_reasonOn 82 = .ok (.aload_n 0, 1) := by decide +kernel
theorem dX5_reasonOn_83 : decode cX5_reasonOn 83 = .ok (.getfield 54, 3) := by decide +kernel
theorem dX5_reasonOn_86 : decode cX5_reasonOn 86 = .ok (.iload_n 3, 1) := by decide +kernel
theorem dX5_reasonOn_87 : decode cX5_reasonOn 87 = .ok (.invokevirtual 134, 3) := by decide +kernel
theorem dX5_reasonOn_90 : decode cX5_reasonOn 90 = .ok (.istore 6, 2) := by decide +kernel
theorem dX5_reasonOn_92 : decode cX5_reasonOn 92 = .ok (.iload 6, 2) := by decide +kernel
theorem dX5_reasonOn_94 : decode cX5_reasonOn 94 = .ok (.iconst (-1), 1) := by decide +kernel
theorem dX5_reasonOn_95 : decode cX5_reasonOn 95 = .ok (.if_icmp .eq 13, 3) := by decide +kernel
theorem dX5_reasonOn_98 : decode cX5_reasonOn 98 = .ok (.iload_n 1, 1) := by decide +kernel
theorem dX5_reasonOn_99 : decode cX5_reasonOn 99 = .ok (.iload 6, 2) := by decide +kernel
theorem dX5_reasonOn_101 : decode cX5_reasonOn 101 = .ok (.iconst 1, 1) := by decide +kernel
theorem dX5_reasonOn_102 : decode cX5_reasonOn 102 = .ok (.iadd, 1) := by decide +kernel
theorem dX5_reasonOn_103 : decode cX5_reasonOn 103 = .ok (.if_icmp .gt 5, 3) := by decide +kernel
theorem dX5_reasonOn_106 : decode cX5_reasonOn 106 = .ok (.iconst 5, 1) := by decide +kernel
theorem dX5_reasonOn_107 : decode cX5_reasonOn 107 = .ok (.ireturn, 1) := by decide +kernel
theorem dX5_reasonOn_108 : decode cX5_reasonOn 108 = .ok (.aload_n 0, 1) := by decide +kernel
theorem dX5_reasonOn_109 : decode cX5_reasonOn 109 = .ok (.getfield 40, 3) := by decide +kernel
theorem dX5_reasonOn_112 : decode cX5_reasonOn 112 = .ok (.iload_n 1, 1) := by decide +kernel
theorem dX5_reasonOn_113 : decode cX5_reasonOn 113 = .ok (.iload_n 3, 1) := by decide +kernel
theorem dX5_reasonOn_114 : decode cX5_reasonOn 114 = .ok (.iload 4, 2) := by decide +kernel
theorem dX5_reasonOn_116 : decode cX5_reasonOn 116 = .ok (.iload 5, 2) := by decide +kernel
theorem dX5_reasonOn_118 : decode cX5_reasonOn 118 = .ok (.invokevirtual 137, 3) := by decide +kernel
theorem dX5_reasonOn_121 : decode cX5_reasonOn 121 = .ok (.istore 7, 2) := by decide +kernel
theorem dX5_reasonOn_123 : decode cX5_reasonOn 123 = .ok (.iload 7, 2) := by decide +kernel
theorem dX5_reasonOn_125 : decode cX5_reasonOn 125 = .ok (.iload 4, 2) := by decide +kernel
theorem dX5_reasonOn_127 : decode cX5_reasonOn 127 = .ok (.iload 5, 2) := by decide +kernel
theorem dX5_reasonOn_129 : decode cX5_reasonOn 129 = .ok (.invokestatic 141, 3) := by decide +kernel
theorem dX5_reasonOn_132 : decode cX5_reasonOn 132 = .ok (.if_icmp .ge 8, 3) := by decide +kernel
theorem dX5_reasonOn_135 : decode cX5_reasonOn 135 = .ok (.bipush 6, 2) := by decide +kernel
theorem dX5_reasonOn_137 : decode cX5_reasonOn 137 = .ok (.goto 4, 3) := by decide +kernel
theorem dX5_reasonOn_140 : decode cX5_reasonOn 140 = .ok (.iconst 0, 1) := by decide +kernel
theorem dX5_reasonOn_141 : decode cX5_reasonOn 141 = .ok (.ireturn, 1) := by decide +kernel
theorem dX5_lookAlike_0 : decode cX5_lookAlike 0 = .ok (.aload_n 0, 1) := by decide +kernel
theorem dX5_lookAlike_1 : decode cX5_lookAlike 1 = .ok (.getfield 30, 3) := by decide +kernel
theorem dX5_lookAlike_4 : decode cX5_lookAlike 4 = .ok (.iload_n 1, 1) := by decide +kernel
theorem dX5_lookAlike_5 : decode cX5_lookAlike 5 = .ok (.invokestatic 72, 3) := by decide +kernel
theorem dX5_lookAlike_8 : decode cX5_lookAlike 8 = .ok (.aload_n 0, 1) := by decide +kernel
theorem dX5_lookAlike_9 : decode cX5_lookAlike 9 = .ok (.getfield 30, 3) := by decide +kernel
theorem dX5_lookAlike_12 : decode cX5_lookAlike 12 = .ok (.iload_n 2, 1) := by decide +kernel
theorem dX5_lookAlike_13 : decode cX5_lookAlike 13 = .ok (.invokestatic 72, 3) := by decide +kernel
theorem dX5_lookAlike_16 : decode cX5_lookAlike 16 = .ok (.isub, 1) := by decide +kernel
theorem dX5_lookAlike_17 : decode cX5_lookAlike 17 = .ok (.istore_n 3, 1) := by decide +kernel
theorem dX5_lookAlike_18 : decode cX5_lookAlike 18 = .ok (.iload_n 3, 1) := by decide +kernel
theorem dX5_lookAlike_19 : decode cX5_lookAlike 19 = .ok (.bipush (-5), 2) := by decide +kernel
theorem dX5_lookAlike_21 : decode cX5_lookAlike 21 = .ok (.if_icmp .lt 12, 3) := by decide +kernel
theorem dX5_lookAlike_24 : decode cX5_lookAlike 24 = .ok (.iload_n 3, 1) := by decide +kernel
theorem dX5_lookAlike_25 : decode cX5_lookAlike 25 = .ok (.iconst 5, 1) := by decide +kernel
theorem dX5_lookAlike_26 : decode cX5_lookAlike 26 = .ok (.if_icmp .gt 7, 3) := by decide +kernel
theorem dX5_lookAlike_29 : decode cX5_lookAlike 29 = .ok (.iconst 1, 1) := by decide +kernel
theorem dX5_lookAlike_30 : decode cX5_lookAlike 30 = .ok (.goto 4, 3) := by decide +kernel
theorem dX5_lookAlike_33 : decode cX5_lookAlike 33 = .ok (.iconst 0, 1) := by decide +kernel
theorem dX5_lookAlike_34 : decode cX5_lookAlike 34 = .ok (.ireturn, 1) := by decide +kernel
theorem dX5_firstClearedDay_0 : decode cX5_firstClearedDay 0 = .ok (.iconst 0, 1) := by decide +kernel
theorem dX5_firstClearedDay_1 : decode cX5_firstClearedDay 1 = .ok (.istore_n 3, 1) := by decide +kernel
theorem dX5_firstClearedDay_2 : decode cX5_firstClearedDay 2 = .ok (.iload_n 3, 1) := by decide +kernel
theorem dX5_firstClearedDay_3 : decode cX5_firstClearedDay 3 = .ok (.bipush 60, 2) := by decide +kernel
theorem dX5_firstClearedDay_5 : decode cX5_firstClearedDay 5 = .ok (.if_icmp .gt 49, 3) := by decide +kernel
theorem dX5_firstClearedDay_8 : decode cX5_firstClearedDay 8 = .ok (.aload_n 0, 1) := by decide +kernel
theorem dX5_firstClearedDay_9 : decode cX5_firstClearedDay 9 = .ok (.aload_n 0, 1) := by decide +kernel
theorem dX5_firstClearedDay_10 : decode cX5_firstClearedDay 10 = .ok (.getfield 9, 3) := by decide +kernel
theorem dX5_firstClearedDay_13 : decode cX5_firstClearedDay 13 = .ok (.iload_n 3, 1) := by decide +kernel
theorem dX5_firstClearedDay_14 : decode cX5_firstClearedDay 14 = .ok (.iadd, 1) := by decide +kernel
theorem dX5_firstClearedDay_15 : decode cX5_firstClearedDay 15 = .ok (.iload_n 1, 1) := by decide +kernel
theorem dX5_firstClearedDay_16 : decode cX5_firstClearedDay 16 = .ok (.iload_n 2, 1) := by decide +kernel
theorem dX5_firstClearedDay_17 : decode cX5_firstClearedDay 17 = .ok (.invokevirtual 115, 3) := by decide +kernel
theorem dX5_firstClearedDay_20 : decode cX5_firstClearedDay 20 = .ok (.istore 4, 2) := by decide +kernel
theorem dX5_firstClearedDay_22 : decode cX5_firstClearedDay 22 = .ok (.iload 4, 2) := by decide +kernel
theorem dX5_firstClearedDay_24 : decode cX5_firstClearedDay 24 = .ok (.ifCond .ne 10, 3) := by decide +kernel
theorem dX5_firstClearedDay_27 : decode cX5_firstClearedDay 27 = .ok (.aload_n 0, 1) := by decide +kernel
theorem dX5_firstClearedDay_28 : decode cX5_firstClearedDay 28 = .ok (.getfield 9, 3) := by decide +kernel
theorem dX5_firstClearedDay_31 : decode cX5_firstClearedDay 31 = .ok (.iload_n 3, 1) := by decide +kernel
theorem dX5_firstClearedDay_32 : decode cX5_firstClearedDay 32 = .ok (.iadd, 1) := by decide +kernel
theorem dX5_firstClearedDay_33 : decode cX5_firstClearedDay 33 = .ok (.ireturn, 1) := by decide +kernel
theorem dX5_firstClearedDay_34 : decode cX5_firstClearedDay 34 = .ok (.iload 4, 2) := by decide +kernel
theorem dX5_firstClearedDay_36 : decode cX5_firstClearedDay 36 = .ok (.iconst 4, 1) := by decide +kernel
theorem dX5_firstClearedDay_37 : decode cX5_firstClearedDay 37 = .ok (.if_icmp .eq 11, 3) := by decide +kernel
theorem dX5_firstClearedDay_40 : decode cX5_firstClearedDay 40 = .ok (.iload 4, 2) := by decide +kernel
theorem dX5_firstClearedDay_42 : decode cX5_firstClearedDay 42 = .ok (.iconst 5, 1) := by decide +kernel
theorem dX5_firstClearedDay_43 : decode cX5_firstClearedDay 43 = .ok (.if_icmp .eq 5, 3) := by decide +kernel
theorem dX5_firstClearedDay_46 : decode cX5_firstClearedDay 46 = .ok (.iconst (-1), 1) := by decide +kernel
theorem dX5_firstClearedDay_47 : decode cX5_firstClearedDay 47 = .ok (.ireturn, 1) := by decide +kernel
theorem dX5_firstClearedDay_48 : decode cX5_firstClearedDay 48 = .ok (.iinc 3 1, 3) := by decide +kernel
theorem dX5_firstClearedDay_51 : decode cX5_firstClearedDay 51 = .ok (.goto (-49), 3) := by decide +kernel
theorem dX5_firstClearedDay_54 : decode cX5_firstClearedDay 54 = .ok (.iconst (-1), 1) := by decide +kernel
theorem dX5_firstClearedDay_55 : decode cX5_firstClearedDay 55 = .ok (.ireturn, 1) := by decide +kernel
theorem dX5_rehearsalsLacking_0 : decode cX5_rehearsalsLacking 0 = .ok (.aload_n 0, 1) := by decide +kernel
theorem dX5_rehearsalsLacking_1 : decode cX5_rehearsalsLacking 1 = .ok (.getfield 54, 3) := by decide +kernel
theorem dX5_rehearsalsLacking_4 : decode cX5_rehearsalsLacking 4 = .ok (.iload_n 1, 1) := by decide +kernel
theorem dX5_rehearsalsLacking_5 : decode cX5_rehearsalsLacking 5 = .ok (.invokevirtual 108, 3) := by decide +kernel
theorem dX5_rehearsalsLacking_8 : decode cX5_rehearsalsLacking 8 = .ok (.istore_n 3, 1) := by decide +kernel
theorem dX5_rehearsalsLacking_9 : decode cX5_rehearsalsLacking 9 = .ok (.aload_n 0, 1) := by decide +kernel
theorem dX5_rehearsalsLacking_10 : decode cX5_rehearsalsLacking 10 = .ok (.getfield 54, 3) := by decide +kernel
theorem dX5_rehearsalsLacking_13 : decode cX5_rehearsalsLacking 13 = .ok (.iload_n 1, 1) := by decide +kernel
theorem dX5_rehearsalsLacking_14 : decode cX5_rehearsalsLacking 14 = .ok (.invokevirtual 122, 3) := by decide +kernel
theorem dX5_rehearsalsLacking_17 : decode cX5_rehearsalsLacking 17 = .ok (.istore 4, 2) := by decide +kernel
theorem dX5_rehearsalsLacking_19 : decode cX5_rehearsalsLacking 19 = .ok (.iload_n 3, 1) := by decide +kernel
theorem dX5_rehearsalsLacking_20 : decode cX5_rehearsalsLacking 20 = .ok (.iload 4, 2) := by decide +kernel
theorem dX5_rehearsalsLacking_22 : decode cX5_rehearsalsLacking 22 = .ok (.invokestatic 141, 3) := by decide +kernel
theorem dX5_rehearsalsLacking_25 : decode cX5_rehearsalsLacking 25 = .ok (.aload_n 0, 1) := by decide +kernel
theorem dX5_rehearsalsLacking_26 : decode cX5_rehearsalsLacking 26 = .ok (.getfield 40, 3) := by decide +kernel
theorem dX5_rehearsalsLacking_29 : decode cX5_rehearsalsLacking 29 = .ok (.aload_n 0, 1) := by decide +kernel
theorem dX5_rehearsalsLacking_30 : decode cX5_rehearsalsLacking 30 = .ok (.getfield 9, 3) := by decide +kernel
theorem dX5_rehearsalsLacking_33 : decode cX5_rehearsalsLacking 33 = .ok (.iload_n 2, 1) := by decide +kernel
theorem dX5_rehearsalsLacking_34 : decode cX5_rehearsalsLacking 34 = .ok (.iload_n 3, 1) := by decide +kernel
theorem dX5_rehearsalsLacking_35 : decode cX5_rehearsalsLacking 35 = .ok (.iload 4, 2) := by decide +kernel
theorem dX5_rehearsalsLacking_37 : decode cX5_rehearsalsLacking 37 = .ok (.invokevirtual 137, 3) := by decide +kernel
theorem dX5_rehearsalsLacking_40 : decode cX5_rehearsalsLacking 40 = .ok (.isub, 1) := by decide +kernel
theorem dX5_rehearsalsLacking_41 : decode cX5_rehearsalsLacking 41 = .ok (.istore 5, 2) := by decide +kernel
theorem dX5_rehearsalsLacking_43 : decode cX5_rehearsalsLacking 43 = .ok (.iload 5, 2) := by decide +kernel
theorem dX5_rehearsalsLacking_45 : decode cX5_rehearsalsLacking 45 = .ok (.ifCond .le 8, 3) := by decide +kernel
theorem dX5_rehearsalsLacking_48 : decode cX5_rehearsalsLacking 48 = .ok (.iload 5, 2) := by decide +kernel
theorem dX5_rehearsalsLacking_50 : decode cX5_rehearsalsLacking 50 = .ok (.goto 4, 3) := by decide +kernel
theorem dX5_rehearsalsLacking_53 : decode cX5_rehearsalsLacking 53 = .ok (.iconst 0, 1) := by decide +kernel
theorem dX5_rehearsalsLacking_54 : decode cX5_rehearsalsLacking 54 = .ok (.ireturn, 1) := by decide +kernel
theorem dX5_bestFor_0 : decode cX5_bestFor 0 = .ok (.aload_n 0, 1) := by decide +kernel
theorem dX5_bestFor_1 : decode cX5_bestFor 1 = .ok (.getfield 54, 3) := by decide +kernel
theorem dX5_bestFor_4 : decode cX5_bestFor 4 = .ok (.iload_n 1, 1) := by decide +kernel
theorem dX5_bestFor_5 : decode cX5_bestFor 5 = .ok (.invokevirtual 104, 3) := by decide +kernel
theorem dX5_bestFor_8 : decode cX5_bestFor 8 = .ok (.ifCond .eq 5, 3) := by decide +kernel
theorem dX5_bestFor_11 : decode cX5_bestFor 11 = .ok (.iconst (-1), 1) := by decide +kernel
theorem dX5_bestFor_12 : decode cX5_bestFor 12 = .ok (.ireturn, 1) := by decide +kernel
theorem dX5_bestFor_13 : decode cX5_bestFor 13 = .ok (.iconst (-1), 1) := by decide +kernel
theorem dX5_bestFor_14 : decode cX5_bestFor 14 = .ok (.istore_n 2, 1) := by decide +kernel
theorem dX5_bestFor_15 : decode cX5_bestFor 15 = .ok (.iconst 0, 1) := by decide +kernel
theorem dX5_bestFor_16 : decode cX5_bestFor 16 = .ok (.istore_n 3, 1) := by decide +kernel
theorem dX5_bestFor_17 : decode cX5_bestFor 17 = .ok (.iload_n 3, 1) := by decide +kernel
theorem dX5_bestFor_18 : decode cX5_bestFor 18 = .ok (.bipush 8, 2) := by decide +kernel
theorem dX5_bestFor_20 : decode cX5_bestFor 20 = .ok (.if_icmp .ge 35, 3) := by decide +kernel
theorem dX5_bestFor_23 : decode cX5_bestFor 23 = .ok (.aload_n 0, 1) := by decide +kernel
theorem dX5_bestFor_24 : decode cX5_bestFor 24 = .ok (.iload_n 1, 1) := by decide +kernel
theorem dX5_bestFor_25 : decode cX5_bestFor 25 = .ok (.iload_n 3, 1) := by decide +kernel
theorem dX5_bestFor_26 : decode cX5_bestFor 26 = .ok (.invokevirtual 144, 3) := by decide +kernel
theorem dX5_bestFor_29 : decode cX5_bestFor 29 = .ok (.ifCond .eq 20, 3) := by decide +kernel
theorem dX5_bestFor_32 : decode cX5_bestFor 32 = .ok (.iload_n 2, 1) := by decide +kernel
theorem dX5_bestFor_33 : decode cX5_bestFor 33 = .ok (.iconst (-1), 1) := by decide +kernel
theorem dX5_bestFor_34 : decode cX5_bestFor 34 = .ok (.if_icmp .eq 13, 3) := by decide +kernel
theorem dX5_bestFor_37 : decode cX5_bestFor 37 = .ok (.aload_n 0, 1) := by decide +kernel
theorem dX5_bestFor_38 : decode cX5_bestFor 38 = .ok (.iload_n 1, 1) := by decide +kernel
theorem dX5_bestFor_39 : decode cX5_bestFor 39 = .ok (.iload_n 3, 1) := by decide +kernel
theorem dX5_bestFor_40 : decode cX5_bestFor 40 = .ok (.iload_n 2, 1) := by decide +kernel
theorem dX5_bestFor_41 : decode cX5_bestFor 41 = .ok (.invokevirtual 147, 3) := by decide +kernel
theorem dX5_bestFor_44 : decode cX5_bestFor 44 = .ok (.ifCond .eq 5, 3) := by decide +kernel
theorem dX5_bestFor_47 : decode cX5_bestFor 47 = .ok (.iload_n 3, 1) := by decide +kernel
theorem dX5_bestFor_48 : decode cX5_bestFor 48 = .ok (.istore_n 2, 1) := by decide +kernel
theorem dX5_bestFor_49 : decode cX5_bestFor 49 = .ok (.iinc 3 1, 3) := by decide +kernel
theorem dX5_bestFor_52 : decode cX5_bestFor 52 = .ok (.goto (-35), 3) := by decide +kernel
theorem dX5_bestFor_55 : decode cX5_bestFor 55 = .ok (.iload_n 2, 1) := by decide +kernel
theorem dX5_bestFor_56 : decode cX5_bestFor 56 = .ok (.ireturn, 1) := by decide +kernel
theorem dX5_comesIntoQuestion_0 : decode cX5_comesIntoQuestion 0 = .ok (.aload_n 0, 1) := by decide +kernel
theorem dX5_comesIntoQuestion_1 : decode cX5_comesIntoQuestion 1 = .ok (.iload_n 2, 1) := by decide +kernel
theorem dX5_comesIntoQuestion_2 : decode cX5_comesIntoQuestion 2 = .ok (.aload_n 0, 1) := by decide +kernel
theorem dX5_comesIntoQuestion_3 : decode cX5_comesIntoQuestion 3 = .ok (.getfield 54, 3) := by decide +kernel
theorem dX5_comesIntoQuestion_6 : decode cX5_comesIntoQuestion 6 = .ok (.iload_n 1, 1) := by decide +kernel
theorem dX5_comesIntoQuestion_7 : decode cX5_comesIntoQuestion 7 = .ok (.invokevirtual 125, 3) := by decide +kernel
theorem dX5_comesIntoQuestion_10 : decode cX5_comesIntoQuestion 10 = .ok (.invokevirtual 128, 3) := by decide +kernel
theorem dX5_comesIntoQuestion_13 : decode cX5_comesIntoQuestion 13 = .ok (.ifCond .eq 23, 3) := by decide +kernel
theorem dX5_comesIntoQuestion_16 : decode cX5_comesIntoQuestion 16 = .ok (.aload_n 0, 1) := by decide +kernel
theorem dX5_comesIntoQuestion_17 : decode cX5_comesIntoQuestion 17 = .ok (.iload_n 2, 1) := by decide +kernel
theorem dX5_comesIntoQuestion_18 : decode cX5_comesIntoQuestion 18 = .ok (.aload_n 0, 1) := by decide +kernel
theorem dX5_comesIntoQuestion_19 : decode cX5_comesIntoQuestion 19 = .ok (.getfield 54, 3) := by decide +kernel
theorem dX5_comesIntoQuestion_22 : decode cX5_comesIntoQuestion 22 = .ok (.iload_n 1, 1) := by decide +kernel
theorem dX5_comesIntoQuestion_23 : decode cX5_comesIntoQuestion 23 = .ok (.invokevirtual 108, 3) := by decide +kernel
theorem dX5_comesIntoQuestion_26 : decode cX5_comesIntoQuestion 26 = .ok (.invokevirtual 151, 3) := by decide +kernel
theorem dX5_comesIntoQuestion_29 : decode cX5_comesIntoQuestion 29 = .ok (.ifCond .eq 7, 3) := by decide +kernel
theorem dX5_comesIntoQuestion_32 : decode cX5_comesIntoQuestion 32 = .ok (.iconst 1, 1) := by decide +kernel
theorem dX5_comesIntoQuestion_33 : decode cX5_comesIntoQuestion 33 = .ok (.goto 4, 3) := by decide +kernel
theorem dX5_comesIntoQuestion_36 : decode cX5_comesIntoQuestion 36 = .ok (.iconst 0, 1) := by decide +kernel
theorem dX5_comesIntoQuestion_37 : decode cX5_comesIntoQuestion 37 = .ok (.ireturn, 1) := by decide +kernel
theorem dX5_isBetter_0 : decode cX5_isBetter 0 = .ok (.aload_n 0, 1) := by decide +kernel
theorem dX5_isBetter_1 : decode cX5_isBetter 1 = .ok (.iload_n 1, 1) := by decide +kernel
theorem dX5_isBetter_2 : decode cX5_isBetter 2 = .ok (.iload_n 2, 1) := by decide +kernel
theorem dX5_isBetter_3 : decode cX5_isBetter 3 = .ok (.invokevirtual 154, 3) := by decide +kernel
theorem dX5_isBetter_6 : decode cX5_isBetter 6 = .ok (.aload_n 0, 1) := by decide +kernel
theorem dX5_isBetter_7 : decode cX5_isBetter 7 = .ok (.iload_n 1, 1) := by decide +kernel
theorem dX5_isBetter_8 : decode cX5_isBetter 8 = .ok (.iload_n 3, 1) := by decide +kernel
theorem dX5_isBetter_9 : decode cX5_isBetter 9 = .ok (.invokevirtual 154, 3) := by decide +kernel
theorem dX5_isBetter_12 : decode cX5_isBetter 12 = .ok (.isub, 1) := by decide +kernel
theorem dX5_isBetter_13 : decode cX5_isBetter 13 = .ok (.istore 4, 2) := by decide +kernel
theorem dX5_isBetter_15 : decode cX5_isBetter 15 = .ok (.iload 4, 2) := by decide +kernel
theorem dX5_isBetter_17 : decode cX5_isBetter 17 = .ok (.ifCond .eq 14, 3) := by decide +kernel
theorem dX5_isBetter_20 : decode cX5_isBetter 20 = .ok (.iload 4, 2) := by decide +kernel
theorem dX5_isBetter_22 : decode cX5_isBetter 22 = .ok (.ifCond .ge 7, 3) := by decide +kernel
theorem dX5_isBetter_25 : decode cX5_isBetter 25 = .ok (.iconst 1, 1) := by decide +kernel
theorem dX5_isBetter_26 : decode cX5_isBetter 26 = .ok (.goto 4, 3) := by decide +kernel
theorem dX5_isBetter_29 : decode cX5_isBetter 29 = .ok (.iconst 0, 1) := by decide +kernel
theorem dX5_isBetter_30 : decode cX5_isBetter 30 = .ok (.ireturn, 1) := by decide +kernel
theorem dX5_isBetter_31 : decode cX5_isBetter 31 = .ok (.aload_n 0, 1) := by decide +kernel
theorem dX5_isBetter_32 : decode cX5_isBetter 32 = .ok (.getfield 54, 3) := by decide +kernel
theorem dX5_isBetter_35 : decode cX5_isBetter 35 = .ok (.iload_n 1, 1) := by decide +kernel
theorem dX5_isBetter_36 : decode cX5_isBetter 36 = .ok (.invokevirtual 125, 3) := by decide +kernel
theorem dX5_isBetter_39 : decode cX5_isBetter 39 = .ok (.istore 5, 2) := by decide +kernel
theorem dX5_isBetter_41 : decode cX5_isBetter 41 = .ok (.iload_n 2, 1) := by decide +kernel
theorem dX5_isBetter_42 : decode cX5_isBetter 42 = .ok (.iload 5, 2) := by decide +kernel
theorem dX5_isBetter_44 : decode cX5_isBetter 44 = .ok (.if_icmp .eq 9, 3) := by decide +kernel
theorem dX5_isBetter_47 : decode cX5_isBetter 47 = .ok (.iload_n 3, 1) := by decide +kernel
theorem dX5_isBetter_48 : decode cX5_isBetter 48 = .ok (.iload 5, 2) := by decide +kernel
theorem dX5_isBetter_50 : decode cX5_isBetter 50 = .ok (.if_icmp .ne 15, 3) := by decide +kernel
theorem dX5_isBetter_53 : decode cX5_isBetter 53 = .ok (.iload_n 2, 1) := by decide +kernel
theorem dX5_isBetter_54 : decode cX5_isBetter 54 = .ok (.iload 5, 2) := by decide +kernel
theorem dX5_isBetter_56 : decode cX5_isBetter 56 = .ok (.if_icmp .ne 7, 3) := by decide +kernel
theorem dX5_isBetter_59 : decode cX5_isBetter 59 = .ok (.iconst 1, 1) := by decide +kernel
theorem dX5_isBetter_60 : decode cX5_isBetter 60 = .ok (.goto 4, 3) := by decide +kernel
theorem dX5_isBetter_63 : decode cX5_isBetter 63 = .ok (.iconst 0, 1) := by decide +kernel
theorem dX5_isBetter_64 : decode cX5_isBetter 64 = .ok (.ireturn, 1) := by decide +kernel
theorem dX5_isBetter_65 : decode cX5_isBetter 65 = .ok (.aload_n 0, 1) := by decide +kernel
theorem dX5_isBetter_66 : decode cX5_isBetter 66 = .ok (.iload_n 2, 1) := by decide +kernel
theorem dX5_isBetter_67 : decode cX5_isBetter 67 = .ok (.iload 5, 2) := by decide +kernel
theorem dX5_isBetter_69 : decode cX5_isBetter 69 = .ok (.invokevirtual 157, 3) := by decide +kernel
theorem dX5_isBetter_72 : decode cX5_isBetter 72 = .ok (.aload_n 0, 1) := by decide +kernel
theorem dX5_isBetter_73 : decode cX5_isBetter 73 = .ok (.iload_n 3, 1) := by decide +kernel
theorem dX5_isBetter_74 : decode cX5_isBetter 74 = .ok (.iload 5, 2) := by decide +kernel
theorem dX5_isBetter_76 : decode cX5_isBetter 76 = .ok (.invokevirtual 157, 3) := by decide +kernel
theorem dX5_isBetter_79 : decode cX5_isBetter 79 = .ok (.if_icmp .ge 7, 3) := by decide +kernel
theorem dX5_isBetter_82 : decode cX5_isBetter 82 = .ok (.iconst 1, 1) := by decide +kernel
theorem dX5_isBetter_83 : decode cX5_isBetter 83 = .ok (.goto 4, 3) := by decide +kernel
theorem dX5_isBetter_86 : decode cX5_isBetter 86 = .ok (.iconst 0, 1) := by decide +kernel
theorem dX5_isBetter_87 : decode cX5_isBetter 87 = .ok (.ireturn, 1) := by decide +kernel
theorem dX5_sizeGap_0 : decode cX5_sizeGap 0 = .ok (.aload_n 0, 1) := by decide +kernel
theorem dX5_sizeGap_1 : decode cX5_sizeGap 1 = .ok (.getfield 30, 3) := by decide +kernel
theorem dX5_sizeGap_4 : decode cX5_sizeGap 4 = .ok (.iload_n 1, 1) := by decide +kernel
theorem dX5_sizeGap_5 : decode cX5_sizeGap 5 = .ok (.invokestatic 72, 3) := by decide +kernel
theorem dX5_sizeGap_8 : decode cX5_sizeGap 8 = .ok (.aload_n 0, 1) := by decide +kernel
theorem dX5_sizeGap_9 : decode cX5_sizeGap 9 = .ok (.getfield 30, 3) := by decide +kernel
theorem dX5_sizeGap_12 : decode cX5_sizeGap 12 = .ok (.iload_n 2, 1) := by decide +kernel
theorem dX5_sizeGap_13 : decode cX5_sizeGap 13 = .ok (.invokestatic 72, 3) := by decide +kernel
theorem dX5_sizeGap_16 : decode cX5_sizeGap 16 = .ok (.isub, 1) := by decide +kernel
theorem dX5_sizeGap_17 : decode cX5_sizeGap 17 = .ok (.istore_n 3, 1) := by decide +kernel
theorem dX5_sizeGap_18 : decode cX5_sizeGap 18 = .ok (.iload_n 3, 1) := by decide +kernel
theorem dX5_sizeGap_19 : decode cX5_sizeGap 19 = .ok (.ifCond .ge 8, 3) := by decide +kernel
theorem dX5_sizeGap_22 : decode cX5_sizeGap 22 = .ok (.iload_n 3, 1) := by decide +kernel
theorem dX5_sizeGap_23 : decode cX5_sizeGap 23 = .ok (.ineg, 1) := by decide +kernel
theorem dX5_sizeGap_24 : decode cX5_sizeGap 24 = .ok (.goto 4, 3) := by decide +kernel
theorem dX5_sizeGap_27 : decode cX5_sizeGap 27 = .ok (.iload_n 3, 1) := by decide +kernel
theorem dX5_sizeGap_28 : decode cX5_sizeGap 28 = .ok (.ireturn, 1) := by decide +kernel
theorem dX5_clearedToday_0 : decode cX5_clearedToday 0 = .ok (.iconst 0, 1) := by decide +kernel
theorem dX5_clearedToday_1 : decode cX5_clearedToday 1 = .ok (.istore_n 2, 1) := by decide +kernel
theorem dX5_clearedToday_2 : decode cX5_clearedToday 2 = .ok (.iconst 0, 1) := by decide +kernel
theorem dX5_clearedToday_3 : decode cX5_clearedToday 3 = .ok (.istore_n 3, 1) := by decide +kernel
theorem dX5_clearedToday_4 : decode cX5_clearedToday 4 = .ok (.iload_n 3, 1) := by decide +kernel
theorem dX5_clearedToday_5 : decode cX5_clearedToday 5 = .ok (.bipush 8, 2) := by decide +kernel
theorem dX5_clearedToday_7 : decode cX5_clearedToday 7 = .ok (.if_icmp .ge 28, 3) := by decide +kernel
theorem dX5_clearedToday_10 : decode cX5_clearedToday 10 = .ok (.aload_n 0, 1) := by decide +kernel
theorem dX5_clearedToday_11 : decode cX5_clearedToday 11 = .ok (.aload_n 0, 1) := by decide +kernel
theorem dX5_clearedToday_12 : decode cX5_clearedToday 12 = .ok (.getfield 9, 3) := by decide +kernel
theorem dX5_clearedToday_15 : decode cX5_clearedToday 15 = .ok (.iload_n 1, 1) := by decide +kernel
theorem dX5_clearedToday_16 : decode cX5_clearedToday 16 = .ok (.iload_n 3, 1) := by decide +kernel
theorem dX5_clearedToday_17 : decode cX5_clearedToday 17 = .ok (.invokevirtual 115, 3) := by decide +kernel
theorem dX5_clearedToday_20 : decode cX5_clearedToday 20 = .ok (.ifCond .ne 9, 3) := by decide +kernel
theorem dX5_clearedToday_23 : decode cX5_clearedToday 23 = .ok (.iload_n 2, 1) := by decide +kernel
theorem dX5_clearedToday_24 : decode cX5_clearedToday 24 = .ok (.iconst 1, 1) := by decide +kernel
theorem dX5_clearedToday_25 : decode cX5_clearedToday 25 = .ok (.iload_n 3, 1) := by decide +kernel
theorem dX5_clearedToday_26 : decode cX5_clearedToday 26 = .ok (.ishl, 1) := by decide +kernel
theorem dX5_clearedToday_27 : decode cX5_clearedToday 27 = .ok (.ior, 1) := by decide +kernel
theorem dX5_clearedToday_28 : decode cX5_clearedToday 28 = .ok (.istore_n 2, 1) := by decide +kernel
theorem dX5_clearedToday_29 : decode cX5_clearedToday 29 = .ok (.iinc 3 1, 3) := by decide +kernel
theorem dX5_clearedToday_32 : decode cX5_clearedToday 32 = .ok (.goto (-28), 3) := by decide +kernel
theorem dX5_clearedToday_35 : decode cX5_clearedToday 35 = .ok (.iload_n 2, 1) := by decide +kernel
theorem dX5_clearedToday_36 : decode cX5_clearedToday 36 = .ok (.ireturn, 1) := by decide +kernel
theorem dX5_scenesSomebodyCouldShoot_0 : decode cX5_scenesSomebodyCouldShoot 0 = .ok (.iconst 0, 1) := by decide +kernel
theorem dX5_scenesSomebodyCouldShoot_1 : decode cX5_scenesSomebodyCouldShoot 1 = .ok (.istore_n 1, 1) := by decide +kernel
theorem dX5_scenesSomebodyCouldShoot_2 : decode cX5_scenesSomebodyCouldShoot 2 = .ok (.iconst 0, 1) := by decide +kernel
theorem dX5_scenesSomebodyCouldShoot_3 : decode cX5_scenesSomebodyCouldShoot 3 = .ok (.istore_n 2, 1) := by decide +kernel
theorem dX5_scenesSomebodyCouldShoot_4 : decode cX5_scenesSomebodyCouldShoot 4 = .ok (.iload_n 2, 1) := by decide +kernel
theorem dX5_scenesSomebodyCouldShoot_5 : decode cX5_scenesSomebodyCouldShoot 5 = .ok (.aload_n 0, 1) := by decide +kernel
theorem dX5_scenesSomebodyCouldShoot_6 : decode cX5_scenesSomebodyCouldShoot 6 = .ok (.getfield 54, 3) := by decide +kernel
theorem dX5_scenesSomebodyCouldShoot_9 : decode cX5_scenesSomebodyCouldShoot 9 = .ok (.getfield 101, 3) := by decide +kernel
theorem dX5_scenesSomebodyCouldShoot_12 : decode cX5_scenesSomebodyCouldShoot 12 = .ok (.if_icmp .ge 20, 3) := by decide +kernel
theorem dX5_scenesSomebodyCouldShoot_15 : decode cX5_scenesSomebodyCouldShoot 15 = .ok (.aload_n 0, 1) := by decide +kernel
theorem dX5_scenesSomebodyCouldShoot_16 : decode cX5_scenesSomebodyCouldShoot 16 = .ok (.iload_n 2, 1) := by decide +kernel
theorem dX5_scenesSomebodyCouldShoot_17 : decode cX5_scenesSomebodyCouldShoot 17 = .ok (.invokevirtual 160, 3) := by decide +kernel
theorem dX5_scenesSomebodyCouldShoot_20 : decode cX5_scenesSomebodyCouldShoot 20 = .ok (.ifCond .eq 6, 3) := by decide +kernel
theorem dX5_scenesSomebodyCouldShoot_23 : decode cX5_scenesSomebodyCouldShoot 23 = .ok (.iinc 1 1, 3) := by decide +kernel
theorem dX5_scenesSomebodyCouldShoot_26 : decode cX5_scenesSomebodyCouldShoot 26 = .ok (.iinc 2 1, 3) := by decide +kernel
theorem dX5_scenesSomebodyCouldShoot_29 : decode cX5_scenesSomebodyCouldShoot 29 = .ok (.goto (-25), 3) := by decide +kernel
theorem dX5_scenesSomebodyCouldShoot_32 : decode cX5_scenesSomebodyCouldShoot 32 = .ok (.iload_n 1, 1) := by decide +kernel
theorem dX5_scenesSomebodyCouldShoot_33 : decode cX5_scenesSomebodyCouldShoot 33 = .ok (.ireturn, 1) := by decide +kernel
theorem dX5_scenesStoppedBy_0 : decode cX5_scenesStoppedBy 0 = .ok (.iconst 0, 1) := by decide +kernel
theorem dX5_scenesStoppedBy_1 : decode cX5_scenesStoppedBy 1 = .ok (.istore_n 3, 1) := by decide +kernel
theorem dX5_scenesStoppedBy_2 : decode cX5_scenesStoppedBy 2 = .ok (.iconst 0, 1) := by decide +kernel
theorem dX5_scenesStoppedBy_3 : decode cX5_scenesStoppedBy 3 = .ok (.istore 4, 2) := by decide +kernel
theorem dX5_scenesStoppedBy_5 : decode cX5_scenesStoppedBy 5 = .ok (.iload 4, 2) := by decide +kernel
theorem dX5_scenesStoppedBy_7 : decode cX5_scenesStoppedBy 7 = .ok (.aload_n 0, 1) := by decide +kernel
theorem dX5_scenesStoppedBy_8 : decode cX5_scenesStoppedBy 8 = .ok (.getfield 54, 3) := by decide +kernel
theorem dX5_scenesStoppedBy_11 : decode cX5_scenesStoppedBy 11 = .ok (.getfield 101, 3) := by decide +kernel
theorem dX5_scenesStoppedBy_14 : decode cX5_scenesStoppedBy 14 = .ok (.if_icmp .ge 40, 3) := by decide +kernel
theorem dX5_scenesStoppedBy_17 : decode cX5_scenesStoppedBy 17 = .ok (.iload_n 2, 1) := by decide +kernel
theorem dX5_scenesStoppedBy_18 : decode cX5_scenesStoppedBy 18 = .ok (.aload_n 0, 1) := by decide +kernel
theorem dX5_scenesStoppedBy_19 : decode cX5_scenesStoppedBy 19 = .ok (.getfield 54, 3) := by decide +kernel
theorem dX5_scenesStoppedBy_22 : decode cX5_scenesStoppedBy 22 = .ok (.iload 4, 2) := by decide +kernel
theorem dX5_scenesStoppedBy_24 : decode cX5_scenesStoppedBy 24 = .ok (.invokevirtual 108, 3) := by decide +kernel
theorem dX5_scenesStoppedBy_27 : decode cX5_scenesStoppedBy 27 = .ok (.invokestatic 84, 3) := by decide +kernel
theorem dX5_scenesStoppedBy_30 : decode cX5_scenesStoppedBy 30 = .ok (.ifCond .eq 18, 3) := by decide +kernel
theorem dX5_scenesStoppedBy_33 : decode cX5_scenesStoppedBy 33 = .ok (.aload_n 0, 1) := by decide +kernel
theorem dX5_scenesStoppedBy_34 : decode cX5_scenesStoppedBy 34 = .ok (.iload 4, 2) := by decide +kernel
theorem dX5_scenesStoppedBy_36 : decode cX5_scenesStoppedBy 36 = .ok (.invokevirtual 160, 3) := by decide +kernel
theorem dX5_scenesStoppedBy_39 : decode cX5_scenesStoppedBy 39 = .ok (.iconst 1, 1) := by decide +kernel
theorem dX5_scenesStoppedBy_40 : decode cX5_scenesStoppedBy 40 = .ok (.iload_n 1, 1) := by decide +kernel
theorem dX5_scenesStoppedBy_41 : decode cX5_scenesStoppedBy 41 = .ok (.ishl, 1) := by decide +kernel
theorem dX5_scenesStoppedBy_42 : decode cX5_scenesStoppedBy 42 = .ok (.if_icmp .ne 6, 3) := by decide +kernel
theorem dX5_scenesStoppedBy_45 : decode cX5_scenesStoppedBy 45 = .ok (.iinc 3 1, 3) := by decide +kernel
theorem dX5_scenesStoppedBy_48 : decode cX5_scenesStoppedBy 48 = .ok (.iinc 4 1, 3) := by decide +kernel
theorem dX5_scenesStoppedBy_51 : decode cX5_scenesStoppedBy 51 = .ok (.goto (-46), 3) := by decide +kernel
theorem dX5_scenesStoppedBy_54 : decode cX5_scenesStoppedBy 54 = .ok (.iload_n 3, 1) := by decide +kernel
theorem dX5_scenesStoppedBy_55 : decode cX5_scenesStoppedBy 55 = .ok (.ireturn, 1) := by decide +kernel
theorem dX5_personNumber_0 : decode cX5_personNumber 0 = .ok (.iload_n 2, 1) := by decide +kernel
theorem dX5_personNumber_1 : decode cX5_personNumber 1 = .ok (.tableswitch 101 0 5 #[39, 48, 61, 74, 83, 92], 39) := by decide +kernel
theorem dX5_personNumber_40 : decode cX5_personNumber 40 = .ok (.aload_n 0, 1) := by decide +kernel
theorem dX5_personNumber_41 : decode cX5_personNumber 41 = .ok (.getfield 30, 3) := by decide +kernel
theorem dX5_personNumber_44 : decode cX5_personNumber 44 = .ok (.iload_n 1, 1) := by decide +kernel
theorem dX5_personNumber_45 : decode cX5_personNumber 45 = .ok (.invokestatic 72, 3) := by decide +kernel
theorem dX5_personNumber_48 : decode cX5_personNumber 48 = .ok (.ireturn, 1) := by decide +kernel
theorem dX5_personNumber_49 : decode cX5_personNumber 49 = .ok (.aload_n 0, 1) := by decide +kernel
theorem dX5_personNumber_50 : decode cX5_personNumber 50 = .ok (.getfield 47, 3) := by decide +kernel
theorem dX5_personNumber_53 : decode cX5_personNumber 53 = .ok (.aload_n 0, 1) := by decide +kernel
theorem dX5_personNumber_54 : decode cX5_personNumber 54 = .ok (.getfield 9, 3) := by decide +kernel
theorem dX5_personNumber_57 : decode cX5_personNumber 57 = .ok (.iload_n 1, 1) := by decide +kernel
theorem dX5_personNumber_58 : decode cX5_personNumber 58 = .ok (.invokevirtual 80, 3) := by decide +kernel
theorem dX5_personNumber_61 : decode cX5_personNumber 61 = .ok (.ireturn, 1) := by decide +kernel
theorem dX5_personNumber_62 : decode cX5_personNumber 62 = .ok (.aload_n 0, 1) := by decide +kernel
theorem dX5_personNumber_63 : decode cX5_personNumber 63 = .ok (.getfield 47, 3) := by decide +kernel
theorem dX5_personNumber_66 : decode cX5_personNumber 66 = .ok (.aload_n 0, 1) := by decide +kernel
theorem dX5_personNumber_67 : decode cX5_personNumber 67 = .ok (.getfield 9, 3) := by decide +kernel
theorem dX5_personNumber_70 : decode cX5_personNumber 70 = .ok (.iload_n 1, 1) := by decide +kernel
theorem dX5_personNumber_71 : decode cX5_personNumber 71 = .ok (.invokevirtual 163, 3) := by decide +kernel
theorem dX5_personNumber_74 : decode cX5_personNumber 74 = .ok (.ireturn, 1) := by decide +kernel
theorem dX5_personNumber_75 : decode cX5_personNumber 75 = .ok (.aload_n 0, 1) := by decide +kernel
theorem dX5_personNumber_76 : decode cX5_personNumber 76 = .ok (.getfield 34, 3) := by decide +kernel
theorem dX5_personNumber_79 : decode cX5_personNumber 79 = .ok (.iload_n 1, 1) := by decide +kernel
theorem dX5_personNumber_80 : decode cX5_personNumber 80 = .ok (.invokestatic 72, 3) := by decide +kernel
theorem dX5_personNumber_83 : decode cX5_personNumber 83 = .ok (.ireturn, 1) := by decide +kernel
theorem dX5_personNumber_84 : decode cX5_personNumber 84 = .ok (.aload_n 0, 1) := by decide +kernel
theorem dX5_personNumber_85 : decode cX5_personNumber 85 = .ok (.getfield 54, 3) := by decide +kernel
theorem dX5_personNumber_88 : decode cX5_personNumber 88 = .ok (.iload_n 1, 1) := by decide +kernel
theorem dX5_personNumber_89 : decode cX5_personNumber 89 = .ok (.invokevirtual 134, 3) := by decide +kernel
theorem dX5_personNumber_92 : decode cX5_personNumber 92 = .ok (.ireturn, 1) := by decide +kernel
theorem dX5_personNumber_93 : decode cX5_personNumber 93 = .ok (.aload_n 0, 1) := by decide +kernel
theorem dX5_personNumber_94 : decode cX5_personNumber 94 = .ok (.getfield 54, 3) := by decide +kernel
theorem dX5_personNumber_97 : decode cX5_personNumber 97 = .ok (.iload_n 1, 1) := by decide +kernel
theorem dX5_personNumber_98 : decode cX5_personNumber 98 = .ok (.invokevirtual 166, 3) := by decide +kernel
theorem dX5_personNumber_101 : decode cX5_personNumber 101 = .ok (.ireturn, 1) := by decide +kernel
theorem dX5_personNumber_102 : decode cX5_personNumber 102 = .ok (.aload_n 0, 1) := by decide +kernel
theorem dX5_personNumber_103 : decode cX5_personNumber 103 = .ok (.iload_n 1, 1) := by decide +kernel
theorem dX5_personNumber_104 : decode cX5_personNumber 104 = .ok (.invokevirtual 169, 3) := by decide +kernel
theorem dX5_personNumber_107 : decode cX5_personNumber 107 = .ok (.ireturn, 1) := by decide +kernel
theorem dX5_kindsBarredToday_0 : decode cX5_kindsBarredToday 0 = .ok (.aload_n 0, 1) := by decide +kernel
theorem dX5_kindsBarredToday_1 : decode cX5_kindsBarredToday 1 = .ok (.getfield 47, 3) := by decide +kernel
theorem dX5_kindsBarredToday_4 : decode cX5_kindsBarredToday 4 = .ok (.aload_n 0, 1) := by decide +kernel
theorem dX5_kindsBarredToday_5 : decode cX5_kindsBarredToday 5 = .ok (.getfield 9, 3) := by decide +kernel
theorem dX5_kindsBarredToday_8 : decode cX5_kindsBarredToday 8 = .ok (.iload_n 1, 1) := by decide +kernel
theorem dX5_kindsBarredToday_9 : decode cX5_kindsBarredToday 9 = .ok (.invokevirtual 80, 3) := by decide +kernel
theorem dX5_kindsBarredToday_12 : decode cX5_kindsBarredToday 12 = .ok (.istore_n 2, 1) := by decide +kernel
theorem dX5_kindsBarredToday_13 : decode cX5_kindsBarredToday 13 = .ok (.iconst 0, 1) := by decide +kernel
theorem dX5_kindsBarredToday_14 : decode cX5_kindsBarredToday 14 = .ok (.istore_n 3, 1) := by decide +kernel
theorem dX5_kindsBarredToday_15 : decode cX5_kindsBarredToday 15 = .ok (.iconst 0, 1) := by decide +kernel
theorem dX5_kindsBarredToday_16 : decode cX5_kindsBarredToday 16 = .ok (.istore 4, 2) := by decide +kernel
theorem dX5_kindsBarredToday_18 : decode cX5_kindsBarredToday 18 = .ok (.iload 4, 2) := by decide +kernel
theorem dX5_kindsBarredToday_20 : decode cX5_kindsBarredToday 20 = .ok (.bipush 6, 2) := by decide +kernel
theorem dX5_kindsBarredToday_22 : decode cX5_kindsBarredToday 22 = .ok (.if_icmp .ge 25, 3) := by decide +kernel
theorem dX5_kindsBarredToday_25 : decode cX5_kindsBarredToday 25 = .ok (.iload_n 2, 1) := by decide +kernel
theorem dX5_kindsBarredToday_26 : decode cX5_kindsBarredToday 26 = .ok (.iload 4, 2) := by decide +kernel
theorem dX5_kindsBarredToday_28 : decode cX5_kindsBarredToday 28 = .ok (.invokestatic 84, 3) := by decide +kernel
theorem dX5_kindsBarredToday_31 : decode cX5_kindsBarredToday 31 = .ok (.ifCond .eq 10, 3) := by decide +kernel
theorem dX5_kindsBarredToday_34 : decode cX5_kindsBarredToday 34 = .ok (.iload_n 3, 1) := by decide +kernel
theorem dX5_kindsBarredToday_35 : decode cX5_kindsBarredToday 35 = .ok (.iconst 1, 1) := by decide +kernel
theorem dX5_kindsBarredToday_36 : decode cX5_kindsBarredToday 36 = .ok (.iload 4, 2) := by decide +kernel
theorem dX5_kindsBarredToday_38 : decode cX5_kindsBarredToday 38 = .ok (.ishl, 1) := by decide +kernel
theorem dX5_kindsBarredToday_39 : decode cX5_kindsBarredToday 39 = .ok (.ior, 1) := by decide +kernel
theorem dX5_kindsBarredToday_40 : decode cX5_kindsBarredToday 40 = .ok (.istore_n 3, 1) := by decide +kernel
theorem dX5_kindsBarredToday_41 : decode cX5_kindsBarredToday 41 = .ok (.iinc 4 1, 3) := by decide +kernel
theorem dX5_kindsBarredToday_44 : decode cX5_kindsBarredToday 44 = .ok (.goto (-26), 3) := by decide +kernel
theorem dX5_kindsBarredToday_47 : decode cX5_kindsBarredToday 47 = .ok (.iload_n 3, 1) := by decide +kernel
theorem dX5_kindsBarredToday_48 : decode cX5_kindsBarredToday 48 = .ok (.ireturn, 1) := by decide +kernel
theorem dX5_sceneNumber_0 : decode cX5_sceneNumber 0 = .ok (.iload_n 2, 1) := by decide +kernel
theorem dX5_sceneNumber_1 : decode cX5_sceneNumber 1 = .ok (.tableswitch 80 0 4 #[35, 44, 53, 62, 71], 35) := by decide +kernel
theorem dX5_sceneNumber_36 : decode cX5_sceneNumber 36 = .ok (.aload_n 0, 1) := by decide +kernel
theorem dX5_sceneNumber_37 : decode cX5_sceneNumber 37 = .ok (.getfield 54, 3) := by decide +kernel
theorem dX5_sceneNumber_40 : decode cX5_sceneNumber 40 = .ok (.iload_n 1, 1) := by decide +kernel
theorem dX5_sceneNumber_41 : decode cX5_sceneNumber 41 = .ok (.invokevirtual 108, 3) := by decide +kernel
theorem dX5_sceneNumber_44 : decode cX5_sceneNumber 44 = .ok (.ireturn, 1) := by decide +kernel
theorem dX5_sceneNumber_45 : decode cX5_sceneNumber 45 = .ok (.aload_n 0, 1) := by decide +kernel
theorem dX5_sceneNumber_46 : decode cX5_sceneNumber 46 = .ok (.getfield 54, 3) := by decide +kernel
theorem dX5_sceneNumber_49 : decode cX5_sceneNumber 49 = .ok (.iload_n 1, 1) := by decide +kernel
theorem dX5_sceneNumber_50 : decode cX5_sceneNumber 50 = .ok (.invokevirtual 122, 3) := by decide +kernel
theorem dX5_sceneNumber_53 : decode cX5_sceneNumber 53 = .ok (.ireturn, 1) := by decide +kernel
theorem dX5_sceneNumber_54 : decode cX5_sceneNumber 54 = .ok (.aload_n 0, 1) := by decide +kernel
theorem dX5_sceneNumber_55 : decode cX5_sceneNumber 55 = .ok (.getfield 54, 3) := by decide +kernel
theorem dX5_sceneNumber_58 : decode cX5_sceneNumber 58 = .ok (.iload_n 1, 1) := by decide +kernel
theorem dX5_sceneNumber_59 : decode cX5_sceneNumber 59 = .ok (.invokevirtual 125, 3) := by decide +kernel
theorem dX5_sceneNumber_62 : decode cX5_sceneNumber 62 = .ok (.ireturn, 1) := by decide +kernel
theorem dX5_sceneNumber_63 : decode cX5_sceneNumber 63 = .ok (.aload_n 0, 1) := by decide +kernel
theorem dX5_sceneNumber_64 : decode cX5_sceneNumber 64 = .ok (.getfield 54, 3) := by decide +kernel
theorem dX5_sceneNumber_67 : decode cX5_sceneNumber 67 = .ok (.iload_n 1, 1) := by decide +kernel
theorem dX5_sceneNumber_68 : decode cX5_sceneNumber 68 = .ok (.invokevirtual 172, 3) := by decide +kernel
theorem dX5_sceneNumber_71 : decode cX5_sceneNumber 71 = .ok (.ireturn, 1) := by decide +kernel
theorem dX5_sceneNumber_72 : decode cX5_sceneNumber 72 = .ok (.aload_n 0, 1) := by decide +kernel
theorem dX5_sceneNumber_73 : decode cX5_sceneNumber 73 = .ok (.getfield 54, 3) := by decide +kernel
theorem dX5_sceneNumber_76 : decode cX5_sceneNumber 76 = .ok (.iload_n 1, 1) := by decide +kernel
theorem dX5_sceneNumber_77 : decode cX5_sceneNumber 77 = .ok (.invokevirtual 175, 3) := by decide +kernel
theorem dX5_sceneNumber_80 : decode cX5_sceneNumber 80 = .ok (.ireturn, 1) := by decide +kernel
theorem dX5_sceneNumber_81 : decode cX5_sceneNumber 81 = .ok (.aload_n 0, 1) := by decide +kernel
theorem dX5_sceneNumber_82 : decode cX5_sceneNumber 82 = .ok (.iload_n 1, 1) := by decide +kernel
theorem dX5_sceneNumber_83 : decode cX5_sceneNumber 83 = .ok (.invokevirtual 160, 3) := by decide +kernel
theorem dX5_sceneNumber_86 : decode cX5_sceneNumber 86 = .ok (.ireturn, 1) := by decide +kernel
end
section
theorem dX6_init_0 : decode cX6_init 0 = .ok (.aload_n 0, 1) := by decide +kernel
theorem dX6_init_1 : decode cX6_init 1 = .ok (.invokespecial 1, 3) := by decide +kernel
theorem dX6_init_4 : decode cX6_init 4 = .ok (.aload_n 0, 1) := by decide +kernel
theorem dX6_init_5 : decode cX6_init 5 = .ok (.new 7, 3) := by decide +kernel
theorem dX6_init_8 : decode cX6_init 8 = .ok (.dup, 1) := by decide +kernel
theorem dX6_init_9 : decode cX6_init 9 = .ok (.invokespecial 9, 3) := by decide +kernel
theorem dX6_init_12 : decode cX6_init 12 = .ok (.putfield 10, 3) := by decide +kernel
theorem dX6_init_15 : decode cX6_init 15 = .ok (.aload_n 0, 1) := by decide +kernel
theorem dX6_init_16 : decode cX6_init 16 = .ok (.new 16, 3) := by decide +kernel
theorem dX6_init_19 : decode cX6_init 19 = .ok (.dup, 1) := by decide +kernel
theorem dX6_init_20 : decode cX6_init 20 = .ok (.invokespecial 18, 3) := by decide +kernel
theorem dX6_init_23 : decode cX6_init 23 = .ok (.putfield 19, 3) := by decide +kernel
theorem dX6_init_26 : decode cX6_init 26 = .ok (.aload_n 0, 1) := by decide +kernel
theorem dX6_init_27 : decode cX6_init 27 = .ok (.new 23, 3) := by decide +kernel
theorem dX6_init_30 : decode cX6_init 30 = .ok (.dup, 1) := by decide +kernel
theorem dX6_init_31 : decode cX6_init 31 = .ok (.invokespecial 25, 3) := by decide +kernel
theorem dX6_init_34 : decode cX6_init 34 = .ok (.putfield 26, 3) := by decide +kernel
theorem dX6_init_37 : decode cX6_init 37 = .ok (.return_, 1) := by decide +kernel
theorem dX6_size_0 : decode cX6_size 0 = .ok (.iload_n 1, 1) := by decide +kernel
theorem dX6_size_1 : decode cX6_size 1 = .ok (.invokestatic 30, 3) := by decide +kernel
theorem dX6_size_4 : decode cX6_size 4 = .ok (.iload_n 2, 1) := by decide +kernel
theorem dX6_size_5 : decode cX6_size 5 = .ok (.sipush 150, 3) := by decide +kernel
theorem dX6_size_8 : decode cX6_size 8 = .ok (.sipush 200, 3) := by decide +kernel
theorem dX6_size_11 : decode cX6_size 11 = .ok (.invokestatic 34, 3) := by decide +kernel
theorem dX6_size_14 : decode cX6_size 14 = .ok (.invokestatic 38, 3) := by decide +kernel
theorem dX6_size_17 : decode cX6_size 17 = .ok (.aload_n 0, 1) := by decide +kernel
theorem dX6_size_18 : decode cX6_size 18 = .ok (.getfield 19, 3) := by decide +kernel
theorem dX6_size_21 : decode cX6_size 21 = .ok (.aload_n 0, 1) := by decide +kernel
theorem dX6_size_22 : decode cX6_size 22 = .ok (.getfield 10, 3) := by decide +kernel
theorem dX6_size_25 : decode cX6_size 25 = .ok (.invokevirtual 42, 3) := by decide +kernel
theorem dX6_size_28 : decode cX6_size 28 = .ok (.aload_n 0, 1) := by decide +kernel
theorem dX6_size_29 : decode cX6_size 29 = .ok (.getfield 10, 3) := by decide +kernel
theorem dX6_size_32 : decode cX6_size 32 = .ok (.iload_n 1, 1) := by decide +kernel
theorem dX6_size_33 : decode cX6_size 33 = .ok (.iload_n 2, 1) := by decide +kernel
theorem dX6_size_34 : decode cX6_size 34 = .ok (.invokevirtual 46, 3) := by decide +kernel
theorem dX6_size_37 : decode cX6_size 37 = .ok (.ireturn, 1) := by decide +kernel
theorem dX6_pass_0 : decode cX6_pass 0 = .ok (.iload_n 1, 1) := by decide +kernel
theorem dX6_pass_1 : decode cX6_pass 1 = .ok (.iconst 1, 1) := by decide +kernel
theorem dX6_pass_2 : decode cX6_pass 2 = .ok (.bipush 99, 2) := by decide +kernel
theorem dX6_pass_4 : decode cX6_pass 4 = .ok (.invokestatic 34, 3) := by decide +kernel
theorem dX6_pass_7 : decode cX6_pass 7 = .ok (.invokestatic 38, 3) := by decide +kernel
theorem dX6_pass_10 : decode cX6_pass 10 = .ok (.aload_n 0, 1) := by decide +kernel
theorem dX6_pass_11 : decode cX6_pass 11 = .ok (.getfield 10, 3) := by decide +kernel
theorem dX6_pass_14 : decode cX6_pass 14 = .ok (.iload_n 1, 1) := by decide +kernel
theorem dX6_pass_15 : decode cX6_pass 15 = .ok (.invokevirtual 50, 3) := by decide +kernel
theorem dX6_pass_18 : decode cX6_pass 18 = .ok (.invokestatic 54, 3) := by decide +kernel
theorem dX6_pass_21 : decode cX6_pass 21 = .ok (.aload_n 0, 1) := by decide +kernel
theorem dX6_pass_22 : decode cX6_pass 22 = .ok (.getfield 19, 3) := by decide +kernel
theorem dX6_pass_25 : decode cX6_pass 25 = .ok (.aload_n 0, 1) := by decide +kernel
theorem dX6_pass_26 : decode cX6_pass 26 = .ok (.getfield 10, 3) := by decide +kernel
theorem dX6_pass_29 : decode cX6_pass 29 = .ok (.invokevirtual 42, 3) := by decide +kernel
theorem dX6_pass_32 : decode cX6_pass 32 = .ok (.aload_n 0, 1) := by decide +kernel
theorem dX6_pass_33 : decode cX6_pass 33 = .ok (.getfield 10, 3) := by decide +kernel
theorem dX6_pass_36 : decode cX6_pass 36 = .ok (.iload_n 1, 1) := by decide +kernel
theorem dX6_pass_37 : decode cX6_pass 37 = .ok (.invokevirtual 57, 3) := by decide +kernel
theorem dX6_pass_40 : decode cX6_pass 40 = .ok (.aload_n 0, 1) := by decide +kernel
theorem dX6_pass_41 : decode cX6_pass 41 = .ok (.getfield 10, 3) := by decide +kernel
theorem dX6_pass_44 : decode cX6_pass 44 = .ok (.getfield 60, 3) := by decide +kernel
theorem dX6_pass_47 : decode cX6_pass 47 = .ok (.ireturn, 1) := by decide +kernel
theorem dX6_rehearse_0 : decode cX6_rehearse 0 = .ok (.iload_n 1, 1) := by decide +kernel
theorem dX6_rehearse_1 : decode cX6_rehearse 1 = .ok (.invokestatic 30, 3) := by decide +kernel
theorem dX6_rehearse_4 : decode cX6_rehearse 4 = .ok (.iload_n 2, 1) := by decide +kernel
theorem dX6_rehearse_5 : decode cX6_rehearse 5 = .ok (.invokestatic 64, 3) := by decide +kernel
theorem dX6_rehearse_8 : decode cX6_rehearse 8 = .ok (.iload_n 3, 1) := by decide +kernel
theorem dX6_rehearse_9 : decode cX6_rehearse 9 = .ok (.iconst 1, 1) := by decide +kernel
theorem dX6_rehearse_10 : decode cX6_rehearse 10 = .ok (.iconst 5, 1) := by decide +kernel
theorem dX6_rehearse_11 : decode cX6_rehearse 11 = .ok (.invokestatic 34, 3) := by decide +kernel
theorem dX6_rehearse_14 : decode cX6_rehearse 14 = .ok (.invokestatic 38, 3) := by decide +kernel
theorem dX6_rehearse_17 : decode cX6_rehearse 17 = .ok (.aload_n 0, 1) := by decide +kernel
theorem dX6_rehearse_18 : decode cX6_rehearse 18 = .ok (.getfield 10, 3) := by decide +kernel
theorem dX6_rehearse_21 : decode cX6_rehearse 21 = .ok (.iload_n 1, 1) := by decide +kernel
theorem dX6_rehearse_22 : decode cX6_rehearse 22 = .ok (.iload_n 2, 1) := by decide +kernel
theorem dX6_rehearse_23 : decode cX6_rehearse 23 = .ok (.invokevirtual 67, 3) := by decide +kernel
theorem dX6_rehearse_26 : decode cX6_rehearse 26 = .ok (.invokestatic 54, 3) := by decide +kernel
theorem dX6_rehearse_29 : decode cX6_rehearse 29 = .ok (.aload_n 0, 1) := by decide +kernel
theorem dX6_rehearse_30 : decode cX6_rehearse 30 = .ok (.getfield 19, 3) := by decide +kernel
theorem dX6_rehearse_33 : decode cX6_rehearse 33 = .ok (.aload_n 0, 1) := by decide +kernel
theorem dX6_rehearse_34 : decode cX6_rehearse 34 = .ok (.getfield 10, 3) := by decide +kernel
theorem dX6_rehearse_37 : decode cX6_rehearse 37 = .ok (.invokevirtual 42, 3) := by decide +kernel
theorem dX6_rehearse_40 : decode cX6_rehearse 40 = .ok (.aload_n 0, 1) := by decide +kernel
theorem dX6_rehearse_41 : decode cX6_rehearse 41 = .ok (.getfield 10, 3) := by decide +kernel
theorem dX6_rehearse_44 : decode cX6_rehearse 44 = .ok (.iload_n 1, 1) := by decide +kernel
theorem dX6_rehearse_45 : decode cX6_rehearse 45 = .ok (.iload_n 2, 1) := by decide +kernel
theorem dX6_rehearse_46 : decode cX6_rehearse 46 = .ok (.iload_n 3, 1) := by decide +kernel
theorem dX6_rehearse_47 : decode cX6_rehearse 47 = .ok (.invokevirtual 71, 3) := by decide +kernel
theorem dX6_rehearse_50 : decode cX6_rehearse 50 = .ok (.ifCond .eq 7, 3) := by decide +kernel
theorem dX6_rehearse_53 : decode cX6_rehearse 53 = .ok (.iconst 1, 1) := by decide +kernel
theorem dX6_rehearse_54 : decode cX6_rehearse 54 = .ok (.goto 4, 3) := by decide +kernel
theorem dX6_rehearse_57 : decode cX6_rehearse 57 = .ok (.iconst 0, 1) := by decide +kernel
theorem dX6_rehearse_58 : decode cX6_rehearse 58 = .ok (.ireturn, 1) := by decide +kernel
theorem dX6_hurt_0 : decode cX6_hurt 0 = .ok (.iload_n 1, 1) := by decide +kernel
theorem dX6_hurt_1 : decode cX6_hurt 1 = .ok (.invokestatic 30, 3) := by decide +kernel
theorem dX6_hurt_4 : decode cX6_hurt 4 = .ok (.iload_n 2, 1) := by decide +kernel
theorem dX6_hurt_5 : decode cX6_hurt 5 = .ok (.invokestatic 74, 3) := by decide +kernel
theorem dX6_hurt_8 : decode cX6_hurt 8 = .ok (.ifCond .eq 17, 3) := by decide +kernel
theorem dX6_hurt_11 : decode cX6_hurt 11 = .ok (.iload_n 3, 1) := by decide +kernel
theorem dX6_hurt_12 : decode cX6_hurt 12 = .ok (.iconst 1, 1) := by decide +kernel
theorem dX6_hurt_13 : decode cX6_hurt 13 = .ok (.bipush 60, 2) := by decide +kernel
theorem dX6_hurt_15 : decode cX6_hurt 15 = .ok (.invokestatic 34, 3) := by decide +kernel
theorem dX6_hurt_18 : decode cX6_hurt 18 = .ok (.ifCond .eq 7, 3) := by decide +kernel
theorem dX6_hurt_21 : decode cX6_hurt 21 = .ok (.iconst 1, 1) := by decide +kernel
theorem dX6_hurt_22 : decode cX6_hurt 22 = .ok (.goto 4, 3) := by decide +kernel
theorem dX6_hurt_25 : decode cX6_hurt 25 = .ok (.iconst 0, 1) := by decide +kernel
theorem dX6_hurt_26 : decode cX6_hurt 26 = .ok (.invokestatic 38, 3) := by decide +kernel
theorem dX6_hurt_29 : decode cX6_hurt 29 = .ok (.aload_n 0, 1) := by decide +kernel
theorem dX6_hurt_30 : decode cX6_hurt 30 = .ok (.getfield 19, 3) := by decide +kernel
theorem dX6_hurt_33 : decode cX6_hurt 33 = .ok (.aload_n 0, 1) := by decide +kernel
theorem dX6_hurt_34 : decode cX6_hurt 34 = .ok (.getfield 10, 3) := by decide +kernel
theorem dX6_hurt_37 : decode cX6_hurt 37 = .ok (.invokevirtual 42, 3) := by decide +kernel
theorem dX6_hurt_40 : decode cX6_hurt 40 = .ok (.aload_n 0, 1) := by decide +kernel
theorem dX6_hurt_41 : decode cX6_hurt 41 = .ok (.getfield 10, 3) := by decide +kernel
theorem dX6_hurt_44 : decode cX6_hurt 44 = .ok (.iload_n 1, 1) := by decide +kernel
theorem dX6_hurt_45 : decode cX6_hurt 45 = .ok (.iload_n 2, 1) := by decide +kernel
theorem dX6_hurt_46 : decode cX6_hurt 46 = .ok (.iload_n 3, 1) := by decide +kernel
theorem dX6_hurt_47 : decode cX6_hurt 47 = .ok (.invokevirtual 77, 3) := by decide +kernel
theorem dX6_hurt_50 : decode cX6_hurt 50 = .ok (.aload_n 0, 1) := by decide +kernel
theorem dX6_hurt_51 : decode cX6_hurt 51 = .ok (.getfield 10, 3) := by decide +kernel
theorem dX6_hurt_54 : decode cX6_hurt 54 = .ok (.iload_n 1, 1) := by decide +kernel
theorem dX6_hurt_55 : decode cX6_hurt 55 = .ok (.invokevirtual 81, 3) := by decide +kernel
theorem dX6_hurt_58 : decode cX6_hurt 58 = .ok (.ireturn, 1) := by decide +kernel
theorem dX6_insure_0 : decode cX6_insure 0 = .ok (.iload_n 1, 1) := by decide +kernel
theorem dX6_insure_1 : decode cX6_insure 1 = .ok (.iload_n 2, 1) := by decide +kernel
theorem dX6_insure_2 : decode cX6_insure 2 = .ok (.invokestatic 85, 3) := by decide +kernel
theorem dX6_insure_5 : decode cX6_insure 5 = .ok (.invokestatic 38, 3) := by decide +kernel
theorem dX6_insure_8 : decode cX6_insure 8 = .ok (.aload_n 0, 1) := by decide +kernel
theorem dX6_insure_9 : decode cX6_insure 9 = .ok (.getfield 10, 3) := by decide +kernel
theorem dX6_insure_12 : decode cX6_insure 12 = .ok (.iload_n 1, 1) := by decide +kernel
theorem dX6_insure_13 : decode cX6_insure 13 = .ok (.iload_n 2, 1) := by decide +kernel
theorem dX6_insure_14 : decode cX6_insure 14 = .ok (.invokevirtual 88, 3) := by decide +kernel
theorem dX6_insure_17 : decode cX6_insure 17 = .ok (.aload_n 0, 1) := by decide +kernel
theorem dX6_insure_18 : decode cX6_insure 18 = .ok (.getfield 10, 3) := by decide +kernel
theorem dX6_insure_21 : decode cX6_insure 21 = .ok (.getfield 91, 3) := by decide +kernel
theorem dX6_insure_24 : decode cX6_insure 24 = .ok (.if_icmp .gt 7, 3) := by decide +kernel
theorem dX6_insure_27 : decode cX6_insure 27 = .ok (.iconst 1, 1) := by decide +kernel
theorem dX6_insure_28 : decode cX6_insure 28 = .ok (.goto 4, 3) := by decide +kernel
theorem dX6_insure_31 : decode cX6_insure 31 = .ok (.iconst 0, 1) := by decide +kernel
theorem dX6_insure_32 : decode cX6_insure 32 = .ok (.invokestatic 54, 3) := by decide +kernel
theorem dX6_insure_35 : decode cX6_insure 35 = .ok (.aload_n 0, 1) := by decide +kernel
theorem dX6_insure_36 : decode cX6_insure 36 = .ok (.getfield 19, 3) := by decide +kernel
theorem dX6_insure_39 : decode cX6_insure 39 = .ok (.aload_n 0, 1) := by decide +kernel
theorem dX6_insure_40 : decode cX6_insure 40 = .ok (.getfield 10, 3) := by decide +kernel
theorem dX6_insure_43 : decode cX6_insure 43 = .ok (.invokevirtual 42, 3) := by decide +kernel
theorem dX6_insure_46 : decode cX6_insure 46 = .ok (.aload_n 0, 1) := by decide +kernel
theorem dX6_insure_47 : decode cX6_insure 47 = .ok (.getfield 10, 3) := by decide +kernel
theorem dX6_insure_50 : decode cX6_insure 50 = .ok (.iload_n 1, 1) := by decide +kernel
theorem dX6_insure_51 : decode cX6_insure 51 = .ok (.iload_n 2, 1) := by decide +kernel
theorem dX6_insure_52 : decode cX6_insure 52 = .ok (.invokevirtual 94, 3) := by decide +kernel
theorem dX6_insure_55 : decode cX6_insure 55 = .ok (.aload_n 0, 1) := by decide +kernel
theorem dX6_insure_56 : decode cX6_insure 56 = .ok (.getfield 10, 3) := by decide +kernel
theorem dX6_insure_59 : decode cX6_insure 59 = .ok (.getfield 91, 3) := by decide +kernel
theorem dX6_insure_62 : decode cX6_insure 62 = .ok (.ireturn, 1) := by decide +kernel
theorem dX6_scene_0 : decode cX6_scene 0 = .ok (.iload_n 1, 1) := by decide +kernel
theorem dX6_scene_1 : decode cX6_scene 1 = .ok (.invokestatic 64, 3) := by decide +kernel
theorem dX6_scene_4 : decode cX6_scene 4 = .ok (.iload_n 3, 1) := by decide +kernel
theorem dX6_scene_5 : decode cX6_scene 5 = .ok (.invokestatic 30, 3) := by decide +kernel
theorem dX6_scene_8 : decode cX6_scene 8 = .ok (.iload_n 2, 1) := by decide +kernel
theorem dX6_scene_9 : decode cX6_scene 9 = .ok (.iconst 1, 1) := by decide +kernel
theorem dX6_scene_10 : decode cX6_scene 10 = .ok (.iconst 5, 1) := by decide +kernel
theorem dX6_scene_11 : decode cX6_scene 11 = .ok (.invokestatic 34, 3) := by decide +kernel
theorem dX6_scene_14 : decode cX6_scene 14 = .ok (.invokestatic 38, 3) := by decide +kernel
theorem dX6_scene_17 : decode cX6_scene 17 = .ok (.aload_n 0, 1) := by decide +kernel
theorem dX6_scene_18 : decode cX6_scene 18 = .ok (.getfield 10, 3) := by decide +kernel
theorem dX6_scene_21 : decode cX6_scene 21 = .ok (.getfield 98, 3) := by decide +kernel
theorem dX6_scene_24 : decode cX6_scene 24 = .ok (.getfield 102, 3) := by decide +kernel
theorem dX6_scene_27 : decode cX6_scene 27 = .ok (.bipush 10, 2) := by decide +kernel
theorem dX6_scene_29 : decode cX6_scene 29 = .ok (.if_icmp .ge 7, 3) := by decide +kernel
theorem dX6_scene_32 : decode cX6_scene 32 = .ok (.iconst 1, 1) := by decide +kernel
theorem dX6_scene_33 : decode cX6_scene 33 = .ok (.goto 4, 3) := by decide +kernel
theorem dX6_scene_36 : decode cX6_scene 36 = .ok (.iconst 0, 1) := by decide +kernel
theorem dX6_scene_37 : decode cX6_scene 37 = .ok (.invokestatic 54, 3) := by decide +kernel
theorem dX6_scene_40 : decode cX6_scene 40 = .ok (.aload_n 0, 1) := by decide +kernel
theorem dX6_scene_41 : decode cX6_scene 41 = .ok (.getfield 19, 3) := by decide +kernel
theorem dX6_scene_44 : decode cX6_scene 44 = .ok (.aload_n 0, 1) := by decide +kernel
theorem dX6_scene_45 : decode cX6_scene 45 = .ok (.getfield 10, 3) := by decide +kernel
theorem dX6_scene_48 : decode cX6_scene 48 = .ok (.invokevirtual 42, 3) := by decide +kernel
theorem dX6_scene_51 : decode cX6_scene 51 = .ok (.aload_n 0, 1) := by decide +kernel
theorem dX6_scene_52 : decode cX6_scene 52 = .ok (.getfield 10, 3) := by decide +kernel
theorem dX6_scene_55 : decode cX6_scene 55 = .ok (.getfield 98, 3) := by decide +kernel
theorem dX6_scene_58 : decode cX6_scene 58 = .ok (.iload_n 1, 1) := by decide +kernel
theorem dX6_scene_59 : decode cX6_scene 59 = .ok (.iload_n 2, 1) := by decide +kernel
theorem dX6_scene_60 : decode cX6_scene 60 = .ok (.iload_n 3, 1) := by decide +kernel
theorem dX6_scene_61 : decode cX6_scene 61 = .ok (.invokevirtual 107, 3) := by decide +kernel
theorem dX6_scene_64 : decode cX6_scene 64 = .ok (.ireturn, 1) := by decide +kernel
theorem dX6_shoot_0 : decode cX6_shoot 0 = .ok (.aload_n 0, 1) := by decide +kernel
theorem dX6_shoot_1 : decode cX6_shoot 1 = .ok (.iload_n 1, 1) := by decide +kernel
theorem dX6_shoot_2 : decode cX6_shoot 2 = .ok (.invokevirtual 111, 3) := by decide +kernel
theorem dX6_shoot_5 : decode cX6_shoot 5 = .ok (.iload_n 2, 1) := by decide +kernel
theorem dX6_shoot_6 : decode cX6_shoot 6 = .ok (.invokestatic 30, 3) := by decide +kernel
theorem dX6_shoot_9 : decode cX6_shoot 9 = .ok (.aload_n 0, 1) := by decide +kernel
theorem dX6_shoot_10 : decode cX6_shoot 10 = .ok (.getfield 10, 3) := by decide +kernel
theorem dX6_shoot_13 : decode cX6_shoot 13 = .ok (.iload_n 1, 1) := by decide +kernel
theorem dX6_shoot_14 : decode cX6_shoot 14 = .ok (.iload_n 2, 1) := by decide +kernel
theorem dX6_shoot_15 : decode cX6_shoot 15 = .ok (.invokevirtual 114, 3) := by decide +kernel
theorem dX6_shoot_18 : decode cX6_shoot 18 = .ok (.invokestatic 54, 3) := by decide +kernel
theorem dX6_shoot_21 : decode cX6_shoot 21 = .ok (.aload_n 0, 1) := by decide +kernel
theorem dX6_shoot_22 : decode cX6_shoot 22 = .ok (.getfield 19, 3) := by decide +kernel
theorem dX6_shoot_25 : decode cX6_shoot 25 = .ok (.aload_n 0, 1) := by decide +kernel
theorem dX6_shoot_26 : decode cX6_shoot 26 = .ok (.getfield 10, 3) := by decide +kernel
theorem dX6_shoot_29 : decode cX6_shoot 29 = .ok (.invokevirtual 42, 3) := by decide +kernel
theorem dX6_shoot_32 : decode cX6_shoot 32 = .ok (.aload_n 0, 1) := by decide +kernel
theorem dX6_shoot_33 : decode cX6_shoot 33 = .ok (.getfield 10, 3) := by decide +kernel
theorem dX6_shoot_36 : decode cX6_shoot 36 = .ok (.iload_n 1, 1) := by decide +kernel
theorem dX6_shoot_37 : decode cX6_shoot 37 = .ok (.iload_n 2, 1) := by decide +kernel
theorem dX6_shoot_38 : decode cX6_shoot 38 = .ok (.invokevirtual 117, 3) := by decide +kernel
theorem dX6_shoot_41 : decode cX6_shoot 41 = .ok (.aload_n 0, 1) := by decide +kernel
theorem dX6_shoot_42 : decode cX6_shoot 42 = .ok (.getfield 10, 3) := by decide +kernel
theorem dX6_shoot_45 : decode cX6_shoot 45 = .ok (.getfield 98, 3) := by decide +kernel
theorem dX6_shoot_48 : decode cX6_shoot 48 = .ok (.iload_n 1, 1) := by decide +kernel
theorem dX6_shoot_49 : decode cX6_shoot 49 = .ok (.invokevirtual 120, 3) := by decide +kernel
theorem dX6_shoot_52 : decode cX6_shoot 52 = .ok (.ifCond .eq 7, 3) := by decide +kernel
theorem dX6_shoot_55 : decode cX6_shoot 55 = .ok (.iconst 1, 1) := by decide +kernel
theorem dX6_shoot_56 : decode cX6_shoot 56 = .ok (.goto 4, 3) := by decide +kernel
theorem dX6_shoot_59 : decode cX6_shoot 59 = .ok (.iconst 0, 1) := by decide +kernel
theorem dX6_shoot_60 : decode cX6_shoot 60 = .ok (.ireturn, 1) := by decide +kernel
theorem dX6_append_0 : decode cX6_append 0 = .ok (.iload_n 1, 1) := by decide +kernel
theorem dX6_append_1 : decode cX6_append 1 = .ok (.bipush 33, 2) := by decide +kernel
theorem dX6_append_3 : decode cX6_append 3 = .ok (.bipush 126, 2) := by decide +kernel
theorem dX6_append_5 : decode cX6_append 5 = .ok (.invokestatic 34, 3) := by decide +kernel
theorem dX6_append_8 : decode cX6_append 8 = .ok (.invokestatic 38, 3) := by decide +kernel
theorem dX6_append_11 : decode cX6_append 11 = .ok (.aload_n 0, 1) := by decide +kernel
theorem dX6_append_12 : decode cX6_append 12 = .ok (.getfield 26, 3) := by decide +kernel
theorem dX6_append_15 : decode cX6_append 15 = .ok (.getfield 123, 3) := by decide +kernel
theorem dX6_append_18 : decode cX6_append 18 = .ok (.bipush 60, 2) := by decide +kernel
theorem dX6_append_20 : decode cX6_append 20 = .ok (.if_icmp .ge 7, 3) := by decide +kernel
theorem dX6_append_23 : decode cX6_append 23 = .ok (.iconst 1, 1) := by decide +kernel
theorem dX6_append_24 : decode cX6_append 24 = .ok (.goto 4, 3) := by decide +kernel
theorem dX6_append_27 : decode cX6_append 27 = .ok (.iconst 0, 1) := by decide +kernel
theorem dX6_append_28 : decode cX6_append 28 = .ok (.invokestatic 54, 3) := by decide +kernel
theorem dX6_append_31 : decode cX6_append 31 = .ok (.aload_n 0, 1) := by decide +kernel
theorem dX6_append_32 : decode cX6_append 32 = .ok (.getfield 26, 3) := by decide +kernel
theorem dX6_append_35 : decode cX6_append 35 = .ok (.iload_n 1, 1) := by decide +kernel
theorem dX6_append_36 : decode cX6_append 36 = .ok (.invokevirtual 126, 3) := by decide +kernel
theorem dX6_append_39 : decode cX6_append 39 = .ok (.aload_n 0, 1) := by decide +kernel
theorem dX6_append_40 : decode cX6_append 40 = .ok (.getfield 26, 3) := by decide +kernel
theorem dX6_append_43 : decode cX6_append 43 = .ok (.getfield 123, 3) := by decide +kernel
theorem dX6_append_46 : decode cX6_append 46 = .ok (.ireturn, 1) := by decide +kernel
theorem dX6_clearBuffer_0 : decode cX6_clearBuffer 0 = .ok (.aload_n 0, 1) := by decide +kernel
theorem dX6_clearBuffer_1 : decode cX6_clearBuffer 1 = .ok (.getfield 26, 3) := by decide +kernel
theorem dX6_clearBuffer_4 : decode cX6_clearBuffer 4 = .ok (.getfield 123, 3) := by decide +kernel
theorem dX6_clearBuffer_7 : decode cX6_clearBuffer 7 = .ok (.istore_n 1, 1) := by decide +kernel
theorem dX6_clearBuffer_8 : decode cX6_clearBuffer 8 = .ok (.aload_n 0, 1) := by decide +kernel
theorem dX6_clearBuffer_9 : decode cX6_clearBuffer 9 = .ok (.getfield 26, 3) := by decide +kernel
theorem dX6_clearBuffer_12 : decode cX6_clearBuffer 12 = .ok (.invokevirtual 129, 3) := by decide +kernel
theorem dX6_clearBuffer_15 : decode cX6_clearBuffer 15 = .ok (.iload_n 1, 1) := by decide +kernel
theorem dX6_clearBuffer_16 : decode cX6_clearBuffer 16 = .ok (.ireturn, 1) := by decide +kernel
theorem dX6_firstError_0 : decode cX6_firstError 0 = .ok (.aload_n 0, 1) := by decide +kernel
theorem dX6_firstError_1 : decode cX6_firstError 1 = .ok (.getfield 26, 3) := by decide +kernel
theorem dX6_firstError_4 : decode cX6_firstError 4 = .ok (.invokevirtual 132, 3) := by decide +kernel
theorem dX6_firstError_7 : decode cX6_firstError 7 = .ok (.ireturn, 1) := by decide +kernel
theorem dX6_play_0 : decode cX6_play 0 = .ok (.aload_n 0, 1) := by decide +kernel
theorem dX6_play_1 : decode cX6_play 1 = .ok (.getfield 26, 3) := by decide +kernel
theorem dX6_play_4 : decode cX6_play 4 = .ok (.invokevirtual 136, 3) := by decide +kernel
theorem dX6_play_7 : decode cX6_play 7 = .ok (.invokestatic 38, 3) := by decide +kernel
theorem dX6_play_10 : decode cX6_play 10 = .ok (.aload_n 0, 1) := by decide +kernel
theorem dX6_play_11 : decode cX6_play 11 = .ok (.getfield 19, 3) := by decide +kernel
theorem dX6_play_14 : decode cX6_play 14 = .ok (.aload_n 0, 1) := by decide +kernel
theorem dX6_play_15 : decode cX6_play 15 = .ok (.getfield 10, 3) := by decide +kernel
theorem dX6_play_18 : decode cX6_play 18 = .ok (.invokevirtual 42, 3) := by decide +kernel
theorem dX6_play_21 : decode cX6_play 21 = .ok (.iconst 0, 1) := by decide +kernel
theorem dX6_play_22 : decode cX6_play 22 = .ok (.istore_n 1, 1) := by decide +kernel
theorem dX6_play_23 : decode cX6_play 23 = .ok (.iconst 1, 1) := by decide +kernel
theorem dX6_play_24 : decode cX6_play 24 = .ok (.istore_n 2, 1) := by decide +kernel
theorem dX6_play_25 : decode cX6_play 25 = .ok (.aload_n 0, 1) := by decide +kernel
theorem dX6_play_26 : decode cX6_play 26 = .ok (.getfield 26, 3) := by decide +kernel
theorem dX6_play_29 : decode cX6_play 29 = .ok (.getfield 123, 3) := by decide +kernel
theorem dX6_play_32 : decode cX6_play 32 = .ok (.istore_n 3, 1) := by decide +kernel
theorem dX6_play_33 : decode cX6_play 33 = .ok (.iconst 0, 1) := by decide +kernel
theorem dX6_play_34 : decode cX6_play 34 = .ok (.istore 4, 2) := by decide +kernel
theorem dX6_play_36 : decode cX6_play 36 = .ok (.iload 4, 2) := by decide +kernel
theorem dX6_play_38 : decode cX6_play 38 = .ok (.iload_n 3, 1) := by decide +kernel
theorem dX6_play_39 : decode cX6_play 39 = .ok (.if_icmp .ge 44, 3) := by decide +kernel
theorem dX6_play_42 : decode cX6_play 42 = .ok (.iload_n 2, 1) := by decide +kernel
theorem dX6_play_43 : decode cX6_play 43 = .ok (.ifCond .eq 40, 3) := by decide +kernel
theorem dX6_play_46 : decode cX6_play 46 = .ok (.aload_n 0, 1) := by decide +kernel
theorem dX6_play_47 : decode cX6_play 47 = .ok (.getfield 26, 3) := by decide +kernel
theorem dX6_play_50 : decode cX6_play 50 = .ok (.iload 4, 2) := by decide +kernel
theorem dX6_play_52 : decode cX6_play 52 = .ok (.invokevirtual 140, 3) := by decide +kernel
theorem dX6_play_55 : decode cX6_play 55 = .ok (.ifCond .eq 22, 3) := by decide +kernel
theorem dX6_play_58 : decode cX6_play 58 = .ok (.aload_n 0, 1) := by decide +kernel
theorem dX6_play_59 : decode cX6_play 59 = .ok (.iload 4, 2) := by decide +kernel
theorem dX6_play_61 : decode cX6_play 61 = .ok (.invokevirtual 143, 3) := by decide +kernel
theorem dX6_play_64 : decode cX6_play 64 = .ok (.istore_n 2, 1) := by decide +kernel
theorem dX6_play_65 : decode cX6_play 65 = .ok (.iload_n 1, 1) := by decide +kernel
theorem dX6_play_66 : decode cX6_play 66 = .ok (.iload_n 2, 1) := by decide +kernel
theorem dX6_play_67 : decode cX6_play 67 = .ok (.ifCond .eq 7, 3) := by decide +kernel
theorem dX6_play_70 : decode cX6_play 70 = .ok (.iconst 1, 1) := by decide +kernel
theorem dX6_play_71 : decode cX6_play 71 = .ok (.goto 4, 3) := by decide +kernel
theorem dX6_play_74 : decode cX6_play 74 = .ok (.iconst 0, 1) := by decide +kernel
theorem dX6_play_75 : decode cX6_play 75 = .ok (.iadd, 1) := by decide +kernel
theorem dX6_play_76 : decode cX6_play 76 = .ok (.istore_n 1, 1) := by decide +kernel
theorem dX6_play_77 : decode cX6_play 77 = .ok (.iinc 4 1, 3) := by decide +kernel
theorem dX6_play_80 : decode cX6_play 80 = .ok (.goto (-44), 3) := by decide +kernel
theorem dX6_play_83 : decode cX6_play 83 = .ok (.aload_n 0, 1) := by decide +kernel
theorem dX6_play_84 : decode cX6_play 84 = .ok (.getfield 26, 3) := by decide +kernel
theorem dX6_play_87 : decode cX6_play 87 = .ok (.invokevirtual 129, 3) := by decide +kernel
theorem dX6_play_90 : decode cX6_play 90 = .ok (.iload_n 1, 1) := by decide +kernel
theorem dX6_play_91 : decode cX6_play 91 = .ok (.ireturn, 1) := by decide +kernel
theorem dX6_undo_0 : decode cX6_undo 0 = .ok (.aload_n 0, 1) := by decide +kernel
theorem dX6_undo_1 : decode cX6_undo 1 = .ok (.getfield 19, 3) := by decide +kernel
theorem dX6_undo_4 : decode cX6_undo 4 = .ok (.getfield 146, 3) := by decide +kernel
theorem dX6_undo_7 : decode cX6_undo 7 = .ok (.ifCond .le 7, 3) := by decide +kernel
theorem dX6_undo_10 : decode cX6_undo 10 = .ok (.iconst 1, 1) := by decide +kernel
theorem dX6_undo_11 : decode cX6_undo 11 = .ok (.goto 4, 3) := by decide +kernel
theorem dX6_undo_14 : decode cX6_undo 14 = .ok (.iconst 0, 1) := by decide +kernel
theorem dX6_undo_15 : decode cX6_undo 15 = .ok (.invokestatic 54, 3) := by decide +kernel
theorem dX6_undo_18 : decode cX6_undo 18 = .ok (.aload_n 0, 1) := by decide +kernel
theorem dX6_undo_19 : decode cX6_undo 19 = .ok (.getfield 19, 3) := by decide +kernel
theorem dX6_undo_22 : decode cX6_undo 22 = .ok (.aload_n 0, 1) := by decide +kernel
theorem dX6_undo_23 : decode cX6_undo 23 = .ok (.getfield 10, 3) := by decide +kernel
theorem dX6_undo_26 : decode cX6_undo 26 = .ok (.invokevirtual 149, 3) := by decide +kernel
theorem dX6_undo_29 : decode cX6_undo 29 = .ok (.aload_n 0, 1) := by decide +kernel
theorem dX6_undo_30 : decode cX6_undo 30 = .ok (.getfield 19, 3) := by decide +kernel
theorem dX6_undo_33 : decode cX6_undo 33 = .ok (.getfield 146, 3) := by decide +kernel
theorem dX6_undo_36 : decode cX6_undo 36 = .ok (.ireturn, 1) := by decide +kernel
theorem dX6_person_0 : decode cX6_person 0 = .ok (.iload_n 1, 1) := by decide +kernel
theorem dX6_person_1 : decode cX6_person 1 = .ok (.invokestatic 30, 3) := by decide +kernel
theorem dX6_person_4 : decode cX6_person 4 = .ok (.iload_n 2, 1) := by decide +kernel
theorem dX6_person_5 : decode cX6_person 5 = .ok (.iconst 0, 1) := by decide +kernel
theorem dX6_person_6 : decode cX6_person 6 = .ok (.bipush 6, 2) := by decide +kernel
theorem dX6_person_8 : decode cX6_person 8 = .ok (.invokestatic 34, 3) := by decide +kernel
theorem dX6_person_11 : decode cX6_person 11 = .ok (.invokestatic 38, 3) := by decide +kernel
theorem dX6_person_14 : decode cX6_person 14 = .ok (.aload_n 0, 1) := by decide +kernel
theorem dX6_person_15 : decode cX6_person 15 = .ok (.getfield 10, 3) := by decide +kernel
theorem dX6_person_18 : decode cX6_person 18 = .ok (.iload_n 1, 1) := by decide +kernel
theorem dX6_person_19 : decode cX6_person 19 = .ok (.iload_n 2, 1) := by decide +kernel
theorem dX6_person_20 : decode cX6_person 20 = .ok (.invokevirtual 152, 3) := by decide +kernel
theorem dX6_person_23 : decode cX6_person 23 = .ok (.ireturn, 1) := by decide +kernel
theorem dX6_rehearsed_0 : decode cX6_rehearsed 0 = .ok (.iload_n 1, 1) := by decide +kernel
theorem dX6_rehearsed_1 : decode cX6_rehearsed 1 = .ok (.invokestatic 30, 3) := by decide +kernel
theorem dX6_rehearsed_4 : decode cX6_rehearsed 4 = .ok (.iload_n 2, 1) := by decide +kernel
theorem dX6_rehearsed_5 : decode cX6_rehearsed 5 = .ok (.invokestatic 64, 3) := by decide +kernel
theorem dX6_rehearsed_8 : decode cX6_rehearsed 8 = .ok (.iload_n 3, 1) := by decide +kernel
theorem dX6_rehearsed_9 : decode cX6_rehearsed 9 = .ok (.iconst 1, 1) := by decide +kernel
theorem dX6_rehearsed_10 : decode cX6_rehearsed 10 = .ok (.iconst 5, 1) := by decide +kernel
theorem dX6_rehearsed_11 : decode cX6_rehearsed 11 = .ok (.invokestatic 34, 3) := by decide +kernel
theorem dX6_rehearsed_14 : decode cX6_rehearsed 14 = .ok (.invokestatic 38, 3) := by decide +kernel
theorem dX6_rehearsed_17 : decode cX6_rehearsed 17 = .ok (.aload_n 0, 1) := by decide +kernel
theorem dX6_rehearsed_18 : decode cX6_rehearsed 18 = .ok (.getfield 10, 3) := by decide +kernel
theorem dX6_rehearsed_21 : decode cX6_rehearsed 21 = .ok (.getfield 155, 3) := by decide +kernel
theorem dX6_rehearsed_24 : decode cX6_rehearsed 24 = .ok (.aload_n 0, 1) := by decide +kernel
theorem dX6_rehearsed_25 : decode cX6_rehearsed 25 = .ok (.getfield 10, 3) := by decide +kernel
theorem dX6_rehearsed_28 : decode cX6_rehearsed 28 = .ok (.getfield 60, 3) := by decide +kernel
theorem dX6_rehearsed_31 : decode cX6_rehearsed 31 = .ok (.iload_n 1, 1) := by decide +kernel
theorem dX6_rehearsed_32 : decode cX6_rehearsed 32 = .ok (.iload_n 2, 1) := by decide +kernel
theorem dX6_rehearsed_33 : decode cX6_rehearsed 33 = .ok (.iload_n 3, 1) := by decide +kernel
theorem dX6_rehearsed_34 : decode cX6_rehearsed 34 = .ok (.invokevirtual 159, 3) := by decide +kernel
theorem dX6_rehearsed_37 : decode cX6_rehearsed 37 = .ok (.ireturn, 1) := by decide +kernel
theorem dX6_kind_0 : decode cX6_kind 0 = .ok (.iload_n 1, 1) := by decide +kernel
theorem dX6_kind_1 : decode cX6_kind 1 = .ok (.invokestatic 64, 3) := by decide +kernel
theorem dX6_kind_4 : decode cX6_kind 4 = .ok (.iload_n 2, 1) := by decide +kernel
theorem dX6_kind_5 : decode cX6_kind 5 = .ok (.iconst 1, 1) := by decide +kernel
theorem dX6_kind_6 : decode cX6_kind 6 = .ok (.iconst 5, 1) := by decide +kernel
theorem dX6_kind_7 : decode cX6_kind 7 = .ok (.invokestatic 34, 3) := by decide +kernel
theorem dX6_kind_10 : decode cX6_kind 10 = .ok (.ifCond .eq 16, 3) := by decide +kernel
theorem dX6_kind_13 : decode cX6_kind 13 = .ok (.iload_n 3, 1) := by decide +kernel
theorem dX6_kind_14 : decode cX6_kind 14 = .ok (.iconst 0, 1) := by decide +kernel
theorem dX6_kind_15 : decode cX6_kind 15 = .ok (.iconst 2, 1) := by decide +kernel
theorem dX6_kind_16 : decode cX6_kind 16 = .ok (.invokestatic 34, 3) := by decide +kernel
theorem dX6_kind_19 : decode cX6_kind 19 = .ok (.ifCond .eq 7, 3) := by decide +kernel
theorem dX6_kind_22 : decode cX6_kind 22 = .ok (.iconst 1, 1) := by decide +kernel
theorem dX6_kind_23 : decode cX6_kind 23 = .ok (.goto 4, 3) := by decide +kernel
theorem dX6_kind_26 : decode cX6_kind 26 = .ok (.iconst 0, 1) := by decide +kernel
theorem dX6_kind_27 : decode cX6_kind 27 = .ok (.invokestatic 38, 3) := by decide +kernel
theorem dX6_kind_30 : decode cX6_kind 30 = .ok (.iload_n 3, 1) := by decide +kernel
theorem dX6_kind_31 : decode cX6_kind 31 = .ok (.lookupswitch 39 #[(0, 25), (1, 31)], 25) := by decide +kernel
theorem dX6_kind_56 : decode cX6_kind 56 = .ok (.iload_n 1, 1) := by decide +kernel
theorem dX6_kind_57 : decode cX6_kind 57 = .ok (.iload_n 2, 1) := by decide +kernel
theorem dX6_kind_58 : decode cX6_kind 58 = .ok (.invokestatic 165, 3) := by decide +kernel
theorem dX6_kind_61 : decode cX6_kind 61 = .ok (.ireturn, 1) := by decide +kernel
theorem dX6_kind_62 : decode cX6_kind 62 = .ok (.getstatic 168, 3) := by decide +kernel
theorem dX6_kind_65 : decode cX6_kind 65 = .ok (.iload_n 1, 1) := by decide +kernel
theorem dX6_kind_66 : decode cX6_kind 66 = .ok (.invokestatic 172, 3) := by decide +kernel
theorem dX6_kind_69 : decode cX6_kind 69 = .ok (.ireturn, 1) := by decide +kernel
theorem dX6_kind_70 : decode cX6_kind 70 = .ok (.getstatic 176, 3) := by decide +kernel
theorem dX6_kind_73 : decode cX6_kind 73 = .ok (.iload_n 1, 1) := by decide +kernel
theorem dX6_kind_74 : decode cX6_kind 74 = .ok (.invokestatic 172, 3) := by decide +kernel
theorem dX6_kind_77 : decode cX6_kind 77 = .ok (.ireturn, 1) := by decide +kernel
theorem dX6_sceneOf_0 : decode cX6_sceneOf 0 = .ok (.aload_n 0, 1) := by decide +kernel
theorem dX6_sceneOf_1 : decode cX6_sceneOf 1 = .ok (.iload_n 1, 1) := by decide +kernel
theorem dX6_sceneOf_2 : decode cX6_sceneOf 2 = .ok (.invokevirtual 111, 3) := by decide +kernel
theorem dX6_sceneOf_5 : decode cX6_sceneOf 5 = .ok (.iload_n 2, 1) := by decide +kernel
theorem dX6_sceneOf_6 : decode cX6_sceneOf 6 = .ok (.iconst 0, 1) := by decide +kernel
theorem dX6_sceneOf_7 : decode cX6_sceneOf 7 = .ok (.iconst 5, 1) := by decide +kernel
theorem dX6_sceneOf_8 : decode cX6_sceneOf 8 = .ok (.invokestatic 34, 3) := by decide +kernel
theorem dX6_sceneOf_11 : decode cX6_sceneOf 11 = .ok (.invokestatic 38, 3) := by decide +kernel
theorem dX6_sceneOf_14 : decode cX6_sceneOf 14 = .ok (.aload_n 0, 1) := by decide +kernel
theorem dX6_sceneOf_15 : decode cX6_sceneOf 15 = .ok (.getfield 10, 3) := by decide +kernel
theorem dX6_sceneOf_18 : decode cX6_sceneOf 18 = .ok (.iload_n 1, 1) := by decide +kernel
theorem dX6_sceneOf_19 : decode cX6_sceneOf 19 = .ok (.iload_n 2, 1) := by decide +kernel
theorem dX6_sceneOf_20 : decode cX6_sceneOf 20 = .ok (.invokevirtual 179, 3) := by decide +kernel
theorem dX6_sceneOf_23 : decode cX6_sceneOf 23 = .ok (.ireturn, 1) := by decide +kernel
theorem dX6_count_0 : decode cX6_count 0 = .ok (.iload_n 1, 1) := by decide +kernel
theorem dX6_count_1 : decode cX6_count 1 = .ok (.iconst 0, 1) := by decide +kernel
theorem dX6_count_2 : decode cX6_count 2 = .ok (.bipush 10, 2) := by decide +kernel
theorem dX6_count_4 : decode cX6_count 4 = .ok (.invokestatic 34, 3) := by decide +kernel
theorem dX6_count_7 : decode cX6_count 7 = .ok (.invokestatic 38, 3) := by decide +kernel
theorem dX6_count_10 : decode cX6_count 10 = .ok (.aload_n 0, 1) := by decide +kernel
theorem dX6_count_11 : decode cX6_count 11 = .ok (.iload_n 1, 1) := by decide +kernel
theorem dX6_count_12 : decode cX6_count 12 = .ok (.invokevirtual 182, 3) := by decide +kernel
theorem dX6_count_15 : decode cX6_count 15 = .ok (.ireturn, 1) := by decide +kernel
theorem dX6_refusal_0 : decode cX6_refusal 0 = .ok (.aload_n 0, 1) := by decide +kernel
theorem dX6_refusal_1 : decode cX6_refusal 1 = .ok (.iload_n 1, 1) := by decide +kernel
theorem dX6_refusal_2 : decode cX6_refusal 2 = .ok (.invokevirtual 111, 3) := by decide +kernel
theorem dX6_refusal_5 : decode cX6_refusal 5 = .ok (.iload_n 2, 1) := by decide +kernel
theorem dX6_refusal_6 : decode cX6_refusal 6 = .ok (.invokestatic 30, 3) := by decide +kernel
theorem dX6_refusal_9 : decode cX6_refusal 9 = .ok (.aload_n 0, 1) := by decide +kernel
theorem dX6_refusal_10 : decode cX6_refusal 10 = .ok (.getfield 10, 3) := by decide +kernel
theorem dX6_refusal_13 : decode cX6_refusal 13 = .ok (.aload_n 0, 1) := by decide +kernel
theorem dX6_refusal_14 : decode cX6_refusal 14 = .ok (.getfield 10, 3) := by decide +kernel
theorem dX6_refusal_17 : decode cX6_refusal 17 = .ok (.getfield 60, 3) := by decide +kernel
theorem dX6_refusal_20 : decode cX6_refusal 20 = .ok (.iload_n 1, 1) := by decide +kernel
theorem dX6_refusal_21 : decode cX6_refusal 21 = .ok (.iload_n 2, 1) := by decide +kernel
theorem dX6_refusal_22 : decode cX6_refusal 22 = .ok (.invokevirtual 185, 3) := by decide +kernel
theorem dX6_refusal_25 : decode cX6_refusal 25 = .ok (.ireturn, 1) := by decide +kernel
theorem dX6_soonest_0 : decode cX6_soonest 0 = .ok (.aload_n 0, 1) := by decide +kernel
theorem dX6_soonest_1 : decode cX6_soonest 1 = .ok (.iload_n 1, 1) := by decide +kernel
theorem dX6_soonest_2 : decode cX6_soonest 2 = .ok (.invokevirtual 111, 3) := by decide +kernel
theorem dX6_soonest_5 : decode cX6_soonest 5 = .ok (.iload_n 2, 1) := by decide +kernel
theorem dX6_soonest_6 : decode cX6_soonest 6 = .ok (.invokestatic 30, 3) := by decide +kernel
theorem dX6_soonest_9 : decode cX6_soonest 9 = .ok (.aload_n 0, 1) := by decide +kernel
theorem dX6_soonest_10 : decode cX6_soonest 10 = .ok (.getfield 10, 3) := by decide +kernel
theorem dX6_soonest_13 : decode cX6_soonest 13 = .ok (.iload_n 1, 1) := by decide +kernel
theorem dX6_soonest_14 : decode cX6_soonest 14 = .ok (.iload_n 2, 1) := by decide +kernel
theorem dX6_soonest_15 : decode cX6_soonest 15 = .ok (.invokevirtual 188, 3) := by decide +kernel
theorem dX6_soonest_18 : decode cX6_soonest 18 = .ok (.ireturn, 1) := by decide +kernel
theorem dX6_lacking_0 : decode cX6_lacking 0 = .ok (.aload_n 0, 1) := by decide +kernel
theorem dX6_lacking_1 : decode cX6_lacking 1 = .ok (.iload_n 1, 1) := by decide +kernel
theorem dX6_lacking_2 : decode cX6_lacking 2 = .ok (.invokevirtual 111, 3) := by decide +kernel
theorem dX6_lacking_5 : decode cX6_lacking 5 = .ok (.iload_n 2, 1) := by decide +kernel
theorem dX6_lacking_6 : decode cX6_lacking 6 = .ok (.invokestatic 30, 3) := by decide +kernel
theorem dX6_lacking_9 : decode cX6_lacking 9 = .ok (.aload_n 0, 1) := by decide +kernel
theorem dX6_lacking_10 : decode cX6_lacking 10 = .ok (.getfield 10, 3) := by decide +kernel
theorem dX6_lacking_13 : decode cX6_lacking 13 = .ok (.iload_n 1, 1) := by decide +kernel
theorem dX6_lacking_14 : decode cX6_lacking 14 = .ok (.iload_n 2, 1) := by decide +kernel
theorem dX6_lacking_15 : decode cX6_lacking 15 = .ok (.invokevirtual 191, 3) := by decide +kernel
theorem dX6_lacking_18 : decode cX6_lacking 18 = .ok (.ireturn, 1) := by decide +kernel
theorem dX6_best_0 : decode cX6_best 0 = .ok (.aload_n 0, 1) := by decide +kernel
theorem dX6_best_1 : decode cX6_best 1 = .ok (.iload_n 1, 1) := by decide +kernel
theorem dX6_best_2 : decode cX6_best 2 = .ok (.invokevirtual 111, 3) := by decide +kernel
theorem dX6_best_5 : decode cX6_best 5 = .ok (.aload_n 0, 1) := by decide +kernel
theorem dX6_best_6 : decode cX6_best 6 = .ok (.getfield 10, 3) := by decide +kernel
theorem dX6_best_9 : decode cX6_best 9 = .ok (.iload_n 1, 1) := by decide +kernel
theorem dX6_best_10 : decode cX6_best 10 = .ok (.invokevirtual 194, 3) := by decide +kernel
theorem dX6_best_13 : decode cX6_best 13 = .ok (.ireturn, 1) := by decide +kernel
theorem dX6_cost_0 : decode cX6_cost 0 = .ok (.iload_n 1, 1) := by decide +kernel
theorem dX6_cost_1 : decode cX6_cost 1 = .ok (.iload_n 2, 1) := by decide +kernel
theorem dX6_cost_2 : decode cX6_cost 2 = .ok (.invokestatic 85, 3) := by decide +kernel
theorem dX6_cost_5 : decode cX6_cost 5 = .ok (.invokestatic 38, 3) := by decide +kernel
theorem dX6_cost_8 : decode cX6_cost 8 = .ok (.aload_n 0, 1) := by decide +kernel
theorem dX6_cost_9 : decode cX6_cost 9 = .ok (.getfield 10, 3) := by decide +kernel
theorem dX6_cost_12 : decode cX6_cost 12 = .ok (.iload_n 1, 1) := by decide +kernel
theorem dX6_cost_13 : decode cX6_cost 13 = .ok (.iload_n 2, 1) := by decide +kernel
theorem dX6_cost_14 : decode cX6_cost 14 = .ok (.invokevirtual 88, 3) := by decide +kernel
theorem dX6_cost_17 : decode cX6_cost 17 = .ok (.ireturn, 1) := by decide +kernel
theorem dX6_ifHurt_0 : decode cX6_ifHurt 0 = .ok (.iload_n 1, 1) := by decide +kernel
theorem dX6_ifHurt_1 : decode cX6_ifHurt 1 = .ok (.invokestatic 30, 3) := by decide +kernel
theorem dX6_ifHurt_4 : decode cX6_ifHurt 4 = .ok (.iload_n 2, 1) := by decide +kernel
theorem dX6_ifHurt_5 : decode cX6_ifHurt 5 = .ok (.invokestatic 74, 3) := by decide +kernel
theorem dX6_ifHurt_8 : decode cX6_ifHurt 8 = .ok (.invokestatic 38, 3) := by decide +kernel
theorem dX6_ifHurt_11 : decode cX6_ifHurt 11 = .ok (.aload_n 0, 1) := by decide +kernel
theorem dX6_ifHurt_12 : decode cX6_ifHurt 12 = .ok (.getfield 10, 3) := by decide +kernel
theorem dX6_ifHurt_15 : decode cX6_ifHurt 15 = .ok (.iload_n 1, 1) := by decide +kernel
theorem dX6_ifHurt_16 : decode cX6_ifHurt 16 = .ok (.iload_n 2, 1) := by decide +kernel
theorem dX6_ifHurt_17 : decode cX6_ifHurt 17 = .ok (.invokevirtual 197, 3) := by decide +kernel
theorem dX6_ifHurt_20 : decode cX6_ifHurt 20 = .ok (.ireturn, 1) := by decide +kernel
theorem dX6_shotShare_0 : decode cX6_shotShare 0 = .ok (.aload_n 0, 1) := by decide +kernel
theorem dX6_shotShare_1 : decode cX6_shotShare 1 = .ok (.getfield 10, 3) := by decide +kernel
theorem dX6_shotShare_4 : decode cX6_shotShare 4 = .ok (.getfield 98, 3) := by decide +kernel
theorem dX6_shotShare_7 : decode cX6_shotShare 7 = .ok (.invokevirtual 200, 3) := by decide +kernel
theorem dX6_shotShare_10 : decode cX6_shotShare 10 = .ok (.dreturn, 1) := by decide +kernel
theorem dX6_digest_0 : decode cX6_digest 0 = .ok (.ldc2_w 204, 3) := by decide +kernel
theorem dX6_digest_3 : decode cX6_digest 3 = .ok (.lstore_n 1, 1) := by decide +kernel
theorem dX6_digest_4 : decode cX6_digest 4 = .ok (.iconst 0, 1) := by decide +kernel
theorem dX6_digest_5 : decode cX6_digest 5 = .ok (.istore_n 3, 1) := by decide +kernel
theorem dX6_digest_6 : decode cX6_digest 6 = .ok (.iload_n 3, 1) := by decide +kernel
theorem dX6_digest_7 : decode cX6_digest 7 = .ok (.bipush 10, 2) := by decide +kernel
theorem dX6_digest_9 : decode cX6_digest 9 = .ok (.if_icmp .gt 20, 3) := by decide +kernel
theorem dX6_digest_12 : decode cX6_digest 12 = .ok (.lload_n 1, 1) := by decide +kernel
theorem dX6_digest_13 : decode cX6_digest 13 = .ok (.aload_n 0, 1) := by decide +kernel
theorem dX6_digest_14 : decode cX6_digest 14 = .ok (.iload_n 3, 1) := by decide +kernel
theorem dX6_digest_15 : decode cX6_digest 15 = .ok (.invokevirtual 182, 3) := by decide +kernel
theorem dX6_digest_18 : decode cX6_digest 18 = .ok (.i2l, 1) := by decide +kernel
theorem dX6_digest_19 : decode cX6_digest 19 = .ok (.invokestatic 206, 3) := by decide +kernel
theorem dX6_digest_22 : decode cX6_digest 22 = .ok (.lstore_n 1, 1) := by decide +kernel
theorem dX6_digest_23 : decode cX6_digest 23 = .ok (.iinc 3 1, 3) := by decide +kernel
theorem dX6_digest_26 : decode cX6_digest 26 = .ok (.goto (-20), 3) := by decide +kernel
theorem dX6_digest_29 : decode cX6_digest 29 = .ok (.iconst 0, 1) := by decide +kernel
theorem dX6_digest_30 : decode cX6_digest 30 = .ok (.istore_n 3, 1) := by decide +kernel
theorem dX6_digest_31 : decode cX6_digest 31 = .ok (.iload_n 3, 1) := by decide +kernel
theorem dX6_digest_32 : decode cX6_digest 32 = .ok (.bipush 8, 2) := by decide +kernel
theorem dX6_digest_34 : decode cX6_digest 34 = .ok (.if_icmp .ge 16, 3) := by decide +kernel
theorem dX6_digest_37 : decode cX6_digest 37 = .ok (.aload_n 0, 1) := by decide +kernel
theorem dX6_digest_38 : decode cX6_digest 38 = .ok (.lload_n 1, 1) := by decide +kernel
theorem dX6_digest_39 : decode cX6_digest 39 = .ok (.iload_n 3, 1) := by decide +kernel
theorem dX6_digest_40 : decode cX6_digest 40 = .ok (.invokevirtual 210, 3) := by decide +kernel
theorem dX6_digest_43 : decode cX6_digest 43 = .ok (.lstore_n 1, 1) := by decide +kernel
theorem dX6_digest_44 : decode cX6_digest 44 = .ok (.iinc 3 1, 3) := by decide +kernel
theorem dX6_digest_47 : decode cX6_digest 47 = .ok (.goto (-16), 3) := by decide +kernel
theorem dX6_digest_50 : decode cX6_digest 50 = .ok (.iconst 0, 1) := by decide +kernel
theorem dX6_digest_51 : decode cX6_digest 51 = .ok (.istore_n 3, 1) := by decide +kernel
theorem dX6_digest_52 : decode cX6_digest 52 = .ok (.iload_n 3, 1) := by decide +kernel
theorem dX6_digest_53 : decode cX6_digest 53 = .ok (.aload_n 0, 1) := by decide +kernel
theorem dX6_digest_54 : decode cX6_digest 54 = .ok (.getfield 10, 3) := by decide +kernel
theorem dX6_digest_57 : decode cX6_digest 57 = .ok (.getfield 98, 3) := by decide +kernel
theorem dX6_digest_60 : decode cX6_digest 60 = .ok (.getfield 102, 3) := by decide +kernel
theorem dX6_digest_63 : decode cX6_digest 63 = .ok (.if_icmp .ge 16, 3) := by decide +kernel
theorem dX6_digest_66 : decode cX6_digest 66 = .ok (.aload_n 0, 1) := by decide +kernel
theorem dX6_digest_67 : decode cX6_digest 67 = .ok (.lload_n 1, 1) := by decide +kernel
theorem dX6_digest_68 : decode cX6_digest 68 = .ok (.iload_n 3, 1) := by decide +kernel
theorem dX6_digest_69 : decode cX6_digest 69 = .ok (.invokevirtual 214, 3) := by decide +kernel
theorem dX6_digest_72 : decode cX6_digest 72 = .ok (.lstore_n 1, 1) := by decide +kernel
theorem dX6_digest_73 : decode cX6_digest 73 = .ok (.iinc 3 1, 3) := by decide +kernel
theorem dX6_digest_76 : decode cX6_digest 76 = .ok (.goto (-24), 3) := by decide +kernel
theorem dX6_digest_79 : decode cX6_digest 79 = .ok (.lload_n 1, 1) := by decide +kernel
theorem dX6_digest_80 : decode cX6_digest 80 = .ok (.aload_n 0, 1) := by decide +kernel
theorem dX6_digest_81 : decode cX6_digest 81 = .ok (.getfield 10, 3) := by decide +kernel
theorem dX6_digest_84 : decode cX6_digest 84 = .ok (.iconst 3, 1) := by decide +kernel
theorem dX6_digest_85 : decode cX6_digest 85 = .ok (.bipush 10, 2) := by decide +kernel
theorem dX6_digest_87 : decode cX6_digest 87 = .ok (.invokevirtual 88, 3) := by decide +kernel
theorem dX6_digest_90 : decode cX6_digest 90 = .ok (.i2l, 1) := by decide +kernel
theorem dX6_digest_91 : decode cX6_digest 91 = .ok (.invokestatic 206, 3) := by decide +kernel
theorem dX6_digest_94 : decode cX6_digest 94 = .ok (.lstore_n 1, 1) := by decide +kernel
theorem dX6_digest_95 : decode cX6_digest 95 = .ok (.lload_n 1, 1) := by decide +kernel
theorem dX6_digest_96 : decode cX6_digest 96 = .ok (.aload_n 0, 1) := by decide +kernel
theorem dX6_digest_97 : decode cX6_digest 97 = .ok (.getfield 10, 3) := by decide +kernel
theorem dX6_digest_100 : decode cX6_digest 100 = .ok (.getfield 98, 3) := by decide +kernel
theorem dX6_digest_103 : decode cX6_digest 103 = .ok (.invokevirtual 200, 3) := by decide +kernel
theorem dX6_digest_106 : decode cX6_digest 106 = .ok (.invokestatic 217, 3) := by decide +kernel
theorem dX6_digest_109 : decode cX6_digest 109 = .ok (.invokestatic 206, 3) := by decide +kernel
theorem dX6_digest_112 : decode cX6_digest 112 = .ok (.lstore_n 1, 1) := by decide +kernel
theorem dX6_digest_113 : decode cX6_digest 113 = .ok (.lload_n 1, 1) := by decide +kernel
theorem dX6_digest_114 : decode cX6_digest 114 = .ok (.aload_n 0, 1) := by decide +kernel
theorem dX6_digest_115 : decode cX6_digest 115 = .ok (.getfield 26, 3) := by decide +kernel
theorem dX6_digest_118 : decode cX6_digest 118 = .ok (.getfield 123, 3) := by decide +kernel
theorem dX6_digest_121 : decode cX6_digest 121 = .ok (.i2l, 1) := by decide +kernel
theorem dX6_digest_122 : decode cX6_digest 122 = .ok (.invokestatic 206, 3) := by decide +kernel
theorem dX6_digest_125 : decode cX6_digest 125 = .ok (.lstore_n 1, 1) := by decide +kernel
theorem dX6_digest_126 : decode cX6_digest 126 = .ok (.iconst 0, 1) := by decide +kernel
theorem dX6_digest_127 : decode cX6_digest 127 = .ok (.istore_n 3, 1) := by decide +kernel
theorem dX6_digest_128 : decode cX6_digest 128 = .ok (.iload_n 3, 1) := by decide +kernel
theorem dX6_digest_129 : decode cX6_digest 129 = .ok (.aload_n 0, 1) := by decide +kernel
theorem dX6_digest_130 : decode cX6_digest 130 = .ok (.getfield 26, 3) := by decide +kernel
theorem dX6_digest_133 : decode cX6_digest 133 = .ok (.getfield 123, 3) := by decide +kernel
theorem dX6_digest_136 : decode cX6_digest 136 = .ok (.if_icmp .ge 23, 3) := by decide +kernel
theorem dX6_digest_139 : decode cX6_digest 139 = .ok (.lload_n 1, 1) := by decide +kernel
theorem dX6_digest_140 : decode cX6_digest 140 = .ok (.aload_n 0, 1) := by decide +kernel
theorem dX6_digest_141 : decode cX6_digest 141 = .ok (.getfield 26, 3) := by decide +kernel
theorem dX6_digest_144 : decode cX6_digest 144 = .ok (.iload_n 3, 1) := by decide +kernel
theorem dX6_digest_145 : decode cX6_digest 145 = .ok (.invokevirtual 221, 3) := by decide +kernel
theorem dX6_digest_148 : decode cX6_digest 148 = .ok (.i2l, 1) := by decide +kernel
theorem dX6_digest_149 : decode cX6_digest 149 = .ok (.invokestatic 206, 3) := by decide +kernel
theorem dX6_digest_152 : decode cX6_digest 152 = .ok (.lstore_n 1, 1) := by decide +kernel
theorem dX6_digest_153 : decode cX6_digest 153 = .ok (.iinc 3 1, 3) := by decide +kernel
theorem dX6_digest_156 : decode cX6_digest 156 = .ok (.goto (-28), 3) := by decide +kernel
theorem dX6_digest_159 : decode cX6_digest 159 = .ok (.lload_n 1, 1) := by decide +kernel
theorem dX6_digest_160 : decode cX6_digest 160 = .ok (.lreturn, 1) := by decide +kernel
theorem dX6_mixedWithPerson_0 : decode cX6_mixedWithPerson 0 = .ok (.lload_n 1, 1) := by decide +kernel
theorem dX6_mixedWithPerson_1 : decode cX6_mixedWithPerson 1 = .ok (.lstore 4, 2) := by decide +kernel
theorem dX6_mixedWithPerson_3 : decode cX6_mixedWithPerson 3 = .ok (.iconst 0, 1) := by decide +kernel
theorem dX6_mixedWithPerson_4 : decode cX6_mixedWithPerson 4 = .ok (.istore 6, 2) := by decide +kernel
theorem dX6_mixedWithPerson_6 : decode cX6_mixedWithPerson 6 = .ok (.iload 6, 2) := by decide +kernel
theorem dX6_mixedWithPerson_8 : decode cX6_mixedWithPerson 8 = .ok (.bipush 6, 2) := by decide +kernel
theorem dX6_mixedWithPerson_10 : decode cX6_mixedWithPerson 10 = .ok (.if_icmp .gt 27, 3) := by decide +kernel
theorem dX6_mixedWithPerson_13 : decode cX6_mixedWithPerson 13 = .ok (.lload 4, 2) := by decide +kernel
theorem dX6_mixedWithPerson_15 : decode cX6_mixedWithPerson 15 = .ok (.aload_n 0, 1) := by decide +kernel
theorem dX6_mixedWithPerson_16 : decode cX6_mixedWithPerson 16 = .ok (.getfield 10, 3) := by decide +kernel
theorem dX6_mixedWithPerson_19 : decode cX6_mixedWithPerson 19 = .ok (.iload_n 3, 1) := by decide +kernel
theorem dX6_mixedWithPerson_20 : decode cX6_mixedWithPerson 20 = .ok (.iload 6, 2) := by decide +kernel
theorem dX6_mixedWithPerson_22 : decode cX6_mixedWithPerson 22 = .ok (.invokevirtual 152, 3) := by decide +kernel
theorem dX6_mixedWithPerson_25 : decode cX6_mixedWithPerson 25 = .ok (.i2l, 1) := by decide +kernel
theorem dX6_mixedWithPerson_26 : decode cX6_mixedWithPerson 26 = .ok (.invokestatic 206, 3) := by decide +kernel
theorem dX6_mixedWithPerson_29 : decode cX6_mixedWithPerson 29 = .ok (.lstore 4, 2) := by decide +kernel
theorem dX6_mixedWithPerson_31 : decode cX6_mixedWithPerson 31 = .ok (.iinc 6 1, 3) := by decide +kernel
theorem dX6_mixedWithPerson_34 : decode cX6_mixedWithPerson 34 = .ok (.goto (-28), 3) := by decide +kernel
theorem dX6_mixedWithPerson_37 : decode cX6_mixedWithPerson 37 = .ok (.iconst 0, 1) := by decide +kernel
theorem dX6_mixedWithPerson_38 : decode cX6_mixedWithPerson 38 = .ok (.istore 6, 2) := by decide +kernel
theorem dX6_mixedWithPerson_40 : decode cX6_mixedWithPerson 40 = .ok (.iload 6, 2) := by decide +kernel
theorem dX6_mixedWithPerson_42 : decode cX6_mixedWithPerson 42 = .ok (.bipush 6, 2) := by decide +kernel
theorem dX6_mixedWithPerson_44 : decode cX6_mixedWithPerson 44 = .ok (.if_icmp .ge 38, 3) := by decide +kernel
theorem dX6_mixedWithPerson_47 : decode cX6_mixedWithPerson 47 = .ok (.lload 4, 2) := by decide +kernel
theorem dX6_mixedWithPerson_49 : decode cX6_mixedWithPerson 49 = .ok (.aload_n 0, 1) := by decide +kernel
theorem dX6_mixedWithPerson_50 : decode cX6_mixedWithPerson 50 = .ok (.getfield 10, 3) := by decide +kernel
theorem dX6_mixedWithPerson_53 : decode cX6_mixedWithPerson 53 = .ok (.getfield 155, 3) := by decide +kernel
theorem dX6_mixedWithPerson_56 : decode cX6_mixedWithPerson 56 = .ok (.aload_n 0, 1) := by decide +kernel
theorem dX6_mixedWithPerson_57 : decode cX6_mixedWithPerson 57 = .ok (.getfield 10, 3) := by decide +kernel
theorem dX6_mixedWithPerson_60 : decode cX6_mixedWithPerson 60 = .ok (.getfield 60, 3) := by decide +kernel
theorem dX6_mixedWithPerson_63 : decode cX6_mixedWithPerson 63 = .ok (.iload_n 3, 1) := by decide +kernel
theorem dX6_mixedWithPerson_64 : decode cX6_mixedWithPerson 64 = .ok (.iload 6, 2) := by decide +kernel
theorem dX6_mixedWithPerson_66 : decode cX6_mixedWithPerson 66 = .ok (.iconst 2, 1) := by decide +kernel
theorem dX6_mixedWithPerson_67 : decode cX6_mixedWithPerson 67 = .ok (.invokevirtual 159, 3) := by decide +kernel
theorem dX6_mixedWithPerson_70 : decode cX6_mixedWithPerson 70 = .ok (.i2l, 1) := by decide +kernel
theorem dX6_mixedWithPerson_71 : decode cX6_mixedWithPerson 71 = .ok (.invokestatic 206, 3) := by decide +kernel
theorem dX6_mixedWithPerson_74 : decode cX6_mixedWithPerson 74 = .ok (.lstore 4, 2) := by decide +kernel
theorem dX6_mixedWithPerson_76 : decode cX6_mixedWithPerson 76 = .ok (.iinc 6 1, 3) := by decide +kernel
theorem dX6_mixedWithPerson_79 : decode cX6_mixedWithPerson 79 = .ok (.goto (-39), 3) := by decide +kernel
theorem dX6_mixedWithPerson_82 : decode cX6_mixedWithPerson 82 = .ok (.lload 4, 2) := by decide +kernel
theorem dX6_mixedWithPerson_84 : decode cX6_mixedWithPerson 84 = .ok (.aload_n 0, 1) := by decide +kernel
theorem dX6_mixedWithPerson_85 : decode cX6_mixedWithPerson 85 = .ok (.getfield 10, 3) := by decide +kernel
theorem dX6_mixedWithPerson_88 : decode cX6_mixedWithPerson 88 = .ok (.iload_n 3, 1) := by decide +kernel
theorem dX6_mixedWithPerson_89 : decode cX6_mixedWithPerson 89 = .ok (.bipush 16, 2) := by decide +kernel
theorem dX6_mixedWithPerson_91 : decode cX6_mixedWithPerson 91 = .ok (.invokevirtual 197, 3) := by decide +kernel
theorem dX6_mixedWithPerson_94 : decode cX6_mixedWithPerson 94 = .ok (.i2l, 1) := by decide +kernel
theorem dX6_mixedWithPerson_95 : decode cX6_mixedWithPerson 95 = .ok (.invokestatic 206, 3) := by decide +kernel
theorem dX6_mixedWithPerson_98 : decode cX6_mixedWithPerson 98 = .ok (.lreturn, 1) := by decide +kernel
theorem dX6_mixedWithScene_0 : decode cX6_mixedWithScene 0 = .ok (.lload_n 1, 1) := by decide +kernel
theorem dX6_mixedWithScene_1 : decode cX6_mixedWithScene 1 = .ok (.lstore 4, 2) := by decide +kernel
theorem dX6_mixedWithScene_3 : decode cX6_mixedWithScene 3 = .ok (.iconst 0, 1) := by decide +kernel
theorem dX6_mixedWithScene_4 : decode cX6_mixedWithScene 4 = .ok (.istore 6, 2) := by decide +kernel
theorem dX6_mixedWithScene_6 : decode cX6_mixedWithScene 6 = .ok (.iload 6, 2) := by decide +kernel
theorem dX6_mixedWithScene_8 : decode cX6_mixedWithScene 8 = .ok (.iconst 5, 1) := by decide +kernel
theorem dX6_mixedWithScene_9 : decode cX6_mixedWithScene 9 = .ok (.if_icmp .gt 27, 3) := by decide +kernel
theorem dX6_mixedWithScene_12 : decode cX6_mixedWithScene 12 = .ok (.lload 4, 2) := by decide +kernel
theorem dX6_mixedWithScene_14 : decode cX6_mixedWithScene 14 = .ok (.aload_n 0, 1) := by decide +kernel
theorem dX6_mixedWithScene_15 : decode cX6_mixedWithScene 15 = .ok (.getfield 10, 3) := by decide +kernel
theorem dX6_mixedWithScene_18 : decode cX6_mixedWithScene 18 = .ok (.iload_n 3, 1) := by decide +kernel
theorem dX6_mixedWithScene_19 : decode cX6_mixedWithScene 19 = .ok (.iload 6, 2) := by decide +kernel
theorem dX6_mixedWithScene_21 : decode cX6_mixedWithScene 21 = .ok (.invokevirtual 179, 3) := by decide +kernel
theorem dX6_mixedWithScene_24 : decode cX6_mixedWithScene 24 = .ok (.i2l, 1) := by decide +kernel
theorem dX6_mixedWithScene_25 : decode cX6_mixedWithScene 25 = .ok (.invokestatic 206, 3) := by decide +kernel
theorem dX6_mixedWithScene_28 : decode cX6_mixedWithScene 28 = .ok (.lstore 4, 2) := by decide +kernel
theorem dX6_mixedWithScene_30 : decode cX6_mixedWithScene 30 = .ok (.iinc 6 1, 3) := by decide +kernel
theorem dX6_mixedWithScene_33 : decode cX6_mixedWithScene 33 = .ok (.goto (-27), 3) := by decide +kernel
theorem dX6_mixedWithScene_36 : decode cX6_mixedWithScene 36 = .ok (.lload 4, 2) := by decide +kernel
theorem dX6_mixedWithScene_38 : decode cX6_mixedWithScene 38 = .ok (.aload_n 0, 1) := by decide +kernel
theorem dX6_mixedWithScene_39 : decode cX6_mixedWithScene 39 = .ok (.getfield 10, 3) := by decide +kernel
theorem dX6_mixedWithScene_42 : decode cX6_mixedWithScene 42 = .ok (.iload_n 3, 1) := by decide +kernel
theorem dX6_mixedWithScene_43 : decode cX6_mixedWithScene 43 = .ok (.invokevirtual 194, 3) := by decide +kernel
theorem dX6_mixedWithScene_46 : decode cX6_mixedWithScene 46 = .ok (.i2l, 1) := by decide +kernel
theorem dX6_mixedWithScene_47 : decode cX6_mixedWithScene 47 = .ok (.invokestatic 206, 3) := by decide +kernel
theorem dX6_mixedWithScene_50 : decode cX6_mixedWithScene 50 = .ok (.lstore 4, 2) := by decide +kernel
theorem dX6_mixedWithScene_52 : decode cX6_mixedWithScene 52 = .ok (.iconst 0, 1) := by decide +kernel
theorem dX6_mixedWithScene_53 : decode cX6_mixedWithScene 53 = .ok (.istore 6, 2) := by decide +kernel
theorem dX6_mixedWithScene_55 : decode cX6_mixedWithScene 55 = .ok (.iload 6, 2) := by decide +kernel
theorem dX6_mixedWithScene_57 : decode cX6_mixedWithScene 57 = .ok (.bipush 8, 2) := by decide +kernel
theorem dX6_mixedWithScene_59 : decode cX6_mixedWithScene 59 = .ok (.if_icmp .ge 70, 3) := by decide +kernel
theorem dX6_mixedWithScene_62 : decode cX6_mixedWithScene 62 = .ok (.lload 4, 2) := by decide +kernel
theorem dX6_mixedWithScene_64 : decode cX6_mixedWithScene 64 = .ok (.aload_n 0, 1) := by decide +kernel
theorem dX6_mixedWithScene_65 : decode cX6_mixedWithScene 65 = .ok (.getfield 10, 3) := by decide +kernel
theorem dX6_mixedWithScene_68 : decode cX6_mixedWithScene 68 = .ok (.aload_n 0, 1) := by decide +kernel
theorem dX6_mixedWithScene_69 : decode cX6_mixedWithScene 69 = .ok (.getfield 10, 3) := by decide +kernel
theorem dX6_mixedWithScene_72 : decode cX6_mixedWithScene 72 = .ok (.getfield 60, 3) := by decide +kernel
theorem dX6_mixedWithScene_75 : decode cX6_mixedWithScene 75 = .ok (.iload_n 3, 1) := by decide +kernel
theorem dX6_mixedWithScene_76 : decode cX6_mixedWithScene 76 = .ok (.iload 6, 2) := by decide +kernel
theorem dX6_mixedWithScene_78 : decode cX6_mixedWithScene 78 = .ok (.invokevirtual 185, 3) := by decide +kernel
theorem dX6_mixedWithScene_81 : decode cX6_mixedWithScene 81 = .ok (.i2l, 1) := by decide +kernel
theorem dX6_mixedWithScene_82 : decode cX6_mixedWithScene 82 = .ok (.invokestatic 206, 3) := by decide +kernel
theorem dX6_mixedWithScene_85 : decode cX6_mixedWithScene 85 = .ok (.lstore 4, 2) := by decide +kernel
theorem dX6_mixedWithScene_87 : decode cX6_mixedWithScene 87 = .ok (.lload 4, 2) := by decide +kernel
theorem dX6_mixedWithScene_89 : decode cX6_mixedWithScene 89 = .ok (.aload_n 0, 1) := by decide +kernel
theorem dX6_mixedWithScene_90 : decode cX6_mixedWithScene 90 = .ok (.getfield 10, 3) := by decide +kernel
theorem dX6_mixedWithScene_93 : decode cX6_mixedWithScene 93 = .ok (.iload_n 3, 1) := by decide +kernel
theorem dX6_mixedWithScene_94 : decode cX6_mixedWithScene 94 = .ok (.iload 6, 2) := by decide +kernel
theorem dX6_mixedWithScene_96 : decode cX6_mixedWithScene 96 = .ok (.invokevirtual 191, 3) := by decide +kernel
theorem dX6_mixedWithScene_99 : decode cX6_mixedWithScene 99 = .ok (.i2l, 1) := by decide +kernel
theorem dX6_mixedWithScene_100 : decode cX6_mixedWithScene 100 = .ok (.invokestatic 206, 3) := by decide +kernel
theorem dX6_mixedWithScene_103 : decode cX6_mixedWithScene 103 = .ok (.lstore 4, 2) := by decide +kernel
theorem dX6_mixedWithScene_105 : decode cX6_mixedWithScene 105 = .ok (.lload 4, 2) := by decide +kernel
theorem dX6_mixedWithScene_107 : decode cX6_mixedWithScene 107 = .ok (.aload_n 0, 1) := by decide +kernel
theorem dX6_mixedWithScene_108 : decode cX6_mixedWithScene 108 = .ok (.getfield 10, 3) := by decide +kernel
theorem dX6_mixedWithScene_111 : decode cX6_mixedWithScene 111 = .ok (.iload_n 3, 1) := by decide +kernel
theorem dX6_mixedWithScene_112 : decode cX6_mixedWithScene 112 = .ok (.iload 6, 2) := by decide +kernel
theorem dX6_mixedWithScene_114 : decode cX6_mixedWithScene 114 = .ok (.invokevirtual 188, 3) := by decide +kernel
theorem dX6_mixedWithScene_117 : decode cX6_mixedWithScene 117 = .ok (.i2l, 1) := by decide +kernel
theorem dX6_mixedWithScene_118 : decode cX6_mixedWithScene 118 = .ok (.invokestatic 206, 3) := by decide +kernel
theorem dX6_mixedWithScene_121 : decode cX6_mixedWithScene 121 = .ok (.lstore 4, 2) := by decide +kernel
theorem dX6_mixedWithScene_123 : decode cX6_mixedWithScene 123 = .ok (.iinc 6 1, 3) := by decide +kernel
theorem dX6_mixedWithScene_126 : decode cX6_mixedWithScene 126 = .ok (.goto (-71), 3) := by decide +kernel
theorem dX6_mixedWithScene_129 : decode cX6_mixedWithScene 129 = .ok (.lload 4, 2) := by decide +kernel
theorem dX6_mixedWithScene_131 : decode cX6_mixedWithScene 131 = .ok (.lreturn, 1) := by decide +kernel
theorem dX6_mixed_0 : decode cX6_mixed 0 = .ok (.ldc2_w 224, 3) := by decide +kernel
theorem dX6_mixed_3 : decode cX6_mixed 3 = .ok (.lload_n 0, 1) := by decide +kernel
theorem dX6_mixed_4 : decode cX6_mixed 4 = .ok (.lmul, 1) := by decide +kernel
theorem dX6_mixed_5 : decode cX6_mixed 5 = .ok (.lload_n 2, 1) := by decide +kernel
theorem dX6_mixed_6 : decode cX6_mixed 6 = .ok (.ladd, 1) := by decide +kernel
theorem dX6_mixed_7 : decode cX6_mixed 7 = .ok (.lreturn, 1) := by decide +kernel
theorem dX6_bitsOfShare_0 : decode cX6_bitsOfShare 0 = .ok (.dload_n 0, 1) := by decide +kernel
theorem dX6_bitsOfShare_1 : decode cX6_bitsOfShare 1 = .ok (.dconst 0, 1) := by decide +kernel
theorem dX6_bitsOfShare_2 : decode cX6_bitsOfShare 2 = .ok (.dcmp .g, 1) := by decide +kernel
theorem dX6_bitsOfShare_3 : decode cX6_bitsOfShare 3 = .ok (.ifCond .gt 5, 3) := by decide +kernel
theorem dX6_bitsOfShare_6 : decode cX6_bitsOfShare 6 = .ok (.lconst 0, 1) := by decide +kernel
theorem dX6_bitsOfShare_7 : decode cX6_bitsOfShare 7 = .ok (.lreturn, 1) := by decide +kernel
theorem dX6_bitsOfShare_8 : decode cX6_bitsOfShare 8 = .ok (.dload_n 0, 1) := by decide +kernel
theorem dX6_bitsOfShare_9 : decode cX6_bitsOfShare 9 = .ok (.dstore_n 2, 1) := by decide +kernel
theorem dX6_bitsOfShare_10 : decode cX6_bitsOfShare 10 = .ok (.ldc2_w 226, 3) := by decide +kernel
theorem dX6_bitsOfShare_13 : decode cX6_bitsOfShare 13 = .ok (.lstore 4, 2) := by decide +kernel
theorem dX6_bitsOfShare_15 : decode cX6_bitsOfShare 15 = .ok (.iconst 0, 1) := by decide +kernel
theorem dX6_bitsOfShare_16 : decode cX6_bitsOfShare 16 = .ok (.istore 6, 2) := by decide +kernel
theorem dX6_bitsOfShare_18 : decode cX6_bitsOfShare 18 = .ok (.iload 6, 2) := by decide +kernel
theorem dX6_bitsOfShare_20 : decode cX6_bitsOfShare 20 = .ok (.bipush 64, 2) := by decide +kernel
theorem dX6_bitsOfShare_22 : decode cX6_bitsOfShare 22 = .ok (.if_icmp .ge 27, 3) := by decide +kernel
theorem dX6_bitsOfShare_25 : decode cX6_bitsOfShare 25 = .ok (.dload_n 2, 1) := by decide +kernel
theorem dX6_bitsOfShare_26 : decode cX6_bitsOfShare 26 = .ok (.dconst 1, 1) := by decide +kernel
theorem dX6_bitsOfShare_27 : decode cX6_bitsOfShare 27 = .ok (.dcmp .g, 1) := by decide +kernel
theorem dX6_bitsOfShare_28 : decode cX6_bitsOfShare 28 = .ok (.ifCond .ge 21, 3) := by decide +kernel
theorem dX6_bitsOfShare_31 : decode cX6_bitsOfShare 31 = .ok (.dload_n 2, 1) := by decide +kernel
theorem dX6_bitsOfShare_32 : decode cX6_bitsOfShare 32 = .ok (.ldc2_w 228, 3) := by decide +kernel
theorem dX6_bitsOfShare_35 : decode cX6_bitsOfShare 35 = .ok (.dmul, 1) := by decide +kernel
theorem dX6_bitsOfShare_36 : decode cX6_bitsOfShare 36 = .ok (.dstore_n 2, 1) := by decide +kernel
theorem dX6_bitsOfShare_37 : decode cX6_bitsOfShare 37 = .ok (.lload 4, 2) := by decide +kernel
theorem dX6_bitsOfShare_39 : decode cX6_bitsOfShare 39 = .ok (.lconst 1, 1) := by decide +kernel
theorem dX6_bitsOfShare_40 : decode cX6_bitsOfShare 40 = .ok (.lsub, 1) := by decide +kernel
theorem dX6_bitsOfShare_41 : decode cX6_bitsOfShare 41 = .ok (.lstore 4, 2) := by decide +kernel
theorem dX6_bitsOfShare_43 : decode cX6_bitsOfShare 43 = .ok (.iinc 6 1, 3) := by decide +kernel
theorem dX6_bitsOfShare_46 : decode cX6_bitsOfShare 46 = .ok (.goto (-28), 3) := by decide +kernel
theorem dX6_bitsOfShare_49 : decode cX6_bitsOfShare 49 = .ok (.lload 4, 2) := by decide +kernel
theorem dX6_bitsOfShare_51 : decode cX6_bitsOfShare 51 = .ok (.bipush 52, 2) := by decide +kernel
theorem dX6_bitsOfShare_53 : decode cX6_bitsOfShare 53 = .ok (.lshl, 1) := by decide +kernel
theorem dX6_bitsOfShare_54 : decode cX6_bitsOfShare 54 = .ok (.dload_n 2, 1) := by decide +kernel
theorem dX6_bitsOfShare_55 : decode cX6_bitsOfShare 55 = .ok (.dconst 1, 1) := by decide +kernel
theorem dX6_bitsOfShare_56 : decode cX6_bitsOfShare 56 = .ok (.dsub, 1) := by decide +kernel
theorem dX6_bitsOfShare_57 : decode cX6_bitsOfShare 57 = .ok (.ldc2_w 230, 3) := by decide +kernel
theorem dX6_bitsOfShare_60 : decode cX6_bitsOfShare 60 = .ok (.dmul, 1) := by decide +kernel
theorem dX6_bitsOfShare_61 : decode cX6_bitsOfShare 61 = .ok (.d2l, 1) := by decide +kernel
theorem dX6_bitsOfShare_62 : decode cX6_bitsOfShare 62 = .ok (.ladd, 1) := by decide +kernel
theorem dX6_bitsOfShare_63 : decode cX6_bitsOfShare 63 = .ok (.lreturn, 1) := by decide +kernel
theorem dX6_countNumber_0 : decode cX6_countNumber 0 = .ok (.iload_n 1, 1) := by decide +kernel
theorem dX6_countNumber_1 : decode cX6_countNumber 1 = .ok (.tableswitch 151 0 9 #[55, 63, 71, 86, 94, 105, 116, 127, 135, 143], 55) := by decide +kernel
theorem dX6_countNumber_56 : decode cX6_countNumber 56 = .ok (.aload_n 0, 1) := by decide +kernel
theorem dX6_countNumber_57 : decode cX6_countNumber 57 = .ok (.getfield 10, 3) := by decide +kernel
theorem dX6_countNumber_60 : decode cX6_countNumber 60 = .ok (.getfield 60, 3) := by decide +kernel
theorem dX6_countNumber_63 : decode cX6_countNumber 63 = .ok (.ireturn, 1) := by decide +kernel
theorem dX6_countNumber_64 : decode cX6_countNumber 64 = .ok (.aload_n 0, 1) := by decide +kernel
theorem dX6_countNumber_65 : decode cX6_countNumber 65 = .ok (.getfield 10, 3) := by decide +kernel
theorem dX6_countNumber_68 : decode cX6_countNumber 68 = .ok (.getfield 91, 3) := by decide +kernel
theorem dX6_countNumber_71 : decode cX6_countNumber 71 = .ok (.ireturn, 1) := by decide +kernel
theorem dX6_countNumber_72 : decode cX6_countNumber 72 = .ok (.aload_n 0, 1) := by decide +kernel
theorem dX6_countNumber_73 : decode cX6_countNumber 73 = .ok (.getfield 10, 3) := by decide +kernel
theorem dX6_countNumber_76 : decode cX6_countNumber 76 = .ok (.aload_n 0, 1) := by decide +kernel
theorem dX6_countNumber_77 : decode cX6_countNumber 77 = .ok (.getfield 10, 3) := by decide +kernel
theorem dX6_countNumber_80 : decode cX6_countNumber 80 = .ok (.getfield 60, 3) := by decide +kernel
theorem dX6_countNumber_83 : decode cX6_countNumber 83 = .ok (.invokevirtual 232, 3) := by decide +kernel
theorem dX6_countNumber_86 : decode cX6_countNumber 86 = .ok (.ireturn, 1) := by decide +kernel
theorem dX6_countNumber_87 : decode cX6_countNumber 87 = .ok (.aload_n 0, 1) := by decide +kernel
theorem dX6_countNumber_88 : decode cX6_countNumber 88 = .ok (.getfield 10, 3) := by decide +kernel
theorem dX6_countNumber_91 : decode cX6_countNumber 91 = .ok (.invokevirtual 235, 3) := by decide +kernel
theorem dX6_countNumber_94 : decode cX6_countNumber 94 = .ok (.ireturn, 1) := by decide +kernel
theorem dX6_countNumber_95 : decode cX6_countNumber 95 = .ok (.aload_n 0, 1) := by decide +kernel
theorem dX6_countNumber_96 : decode cX6_countNumber 96 = .ok (.getfield 10, 3) := by decide +kernel
theorem dX6_countNumber_99 : decode cX6_countNumber 99 = .ok (.getfield 98, 3) := by decide +kernel
theorem dX6_countNumber_102 : decode cX6_countNumber 102 = .ok (.getfield 102, 3) := by decide +kernel
theorem dX6_countNumber_105 : decode cX6_countNumber 105 = .ok (.ireturn, 1) := by decide +kernel
theorem dX6_countNumber_106 : decode cX6_countNumber 106 = .ok (.aload_n 0, 1) := by decide +kernel
theorem dX6_countNumber_107 : decode cX6_countNumber 107 = .ok (.getfield 10, 3) := by decide +kernel
theorem dX6_countNumber_110 : decode cX6_countNumber 110 = .ok (.getfield 98, 3) := by decide +kernel
theorem dX6_countNumber_113 : decode cX6_countNumber 113 = .ok (.invokevirtual 238, 3) := by decide +kernel
theorem dX6_countNumber_116 : decode cX6_countNumber 116 = .ok (.ireturn, 1) := by decide +kernel
theorem dX6_countNumber_117 : decode cX6_countNumber 117 = .ok (.aload_n 0, 1) := by decide +kernel
theorem dX6_countNumber_118 : decode cX6_countNumber 118 = .ok (.getfield 10, 3) := by decide +kernel
theorem dX6_countNumber_121 : decode cX6_countNumber 121 = .ok (.getfield 98, 3) := by decide +kernel
theorem dX6_countNumber_124 : decode cX6_countNumber 124 = .ok (.invokevirtual 241, 3) := by decide +kernel
theorem dX6_countNumber_127 : decode cX6_countNumber 127 = .ok (.ireturn, 1) := by decide +kernel
theorem dX6_countNumber_128 : decode cX6_countNumber 128 = .ok (.aload_n 0, 1) := by decide +kernel
theorem dX6_countNumber_129 : decode cX6_countNumber 129 = .ok (.getfield 10, 3) := by decide +kernel
theorem dX6_countNumber_132 : decode cX6_countNumber 132 = .ok (.getfield 244, 3) := by decide +kernel
theorem dX6_countNumber_135 : decode cX6_countNumber 135 = .ok (.ireturn, 1) := by decide +kernel
theorem dX6_countNumber_136 : decode cX6_countNumber 136 = .ok (.aload_n 0, 1) := by decide +kernel
theorem dX6_countNumber_137 : decode cX6_countNumber 137 = .ok (.getfield 10, 3) := by decide +kernel
theorem dX6_countNumber_140 : decode cX6_countNumber 140 = .ok (.getfield 247, 3) := by decide +kernel
theorem dX6_countNumber_143 : decode cX6_countNumber 143 = .ok (.ireturn, 1) := by decide +kernel
theorem dX6_countNumber_144 : decode cX6_countNumber 144 = .ok (.aload_n 0, 1) := by decide +kernel
theorem dX6_countNumber_145 : decode cX6_countNumber 145 = .ok (.getfield 10, 3) := by decide +kernel
theorem dX6_countNumber_148 : decode cX6_countNumber 148 = .ok (.invokevirtual 250, 3) := by decide +kernel
theorem dX6_countNumber_151 : decode cX6_countNumber 151 = .ok (.ireturn, 1) := by decide +kernel
theorem dX6_countNumber_152 : decode cX6_countNumber 152 = .ok (.aload_n 0, 1) := by decide +kernel
theorem dX6_countNumber_153 : decode cX6_countNumber 153 = .ok (.getfield 19, 3) := by decide +kernel
theorem dX6_countNumber_156 : decode cX6_countNumber 156 = .ok (.getfield 146, 3) := by decide +kernel
theorem dX6_countNumber_159 : decode cX6_countNumber 159 = .ok (.ireturn, 1) := by decide +kernel
theorem dX6_playPart_0 : decode cX6_playPart 0 = .ok (.aload_n 0, 1) := by decide +kernel
theorem dX6_playPart_1 : decode cX6_playPart 1 = .ok (.getfield 26, 3) := by decide +kernel
theorem dX6_playPart_4 : decode cX6_playPart 4 = .ok (.iload_n 1, 1) := by decide +kernel
theorem dX6_playPart_5 : decode cX6_playPart 5 = .ok (.invokevirtual 221, 3) := by decide +kernel
theorem dX6_playPart_8 : decode cX6_playPart 8 = .ok (.lookupswitch 68 #[(33, 43), (43, 28)], 28) := by decide +kernel
theorem dX6_playPart_36 : decode cX6_playPart 36 = .ok (.aload_n 0, 1) := by decide +kernel
theorem dX6_playPart_37 : decode cX6_playPart 37 = .ok (.aload_n 0, 1) := by decide +kernel
theorem dX6_playPart_38 : decode cX6_playPart 38 = .ok (.getfield 26, 3) := by decide +kernel
theorem dX6_playPart_41 : decode cX6_playPart 41 = .ok (.iload_n 1, 1) := by decide +kernel
theorem dX6_playPart_42 : decode cX6_playPart 42 = .ok (.iconst 1, 1) := by decide +kernel
theorem dX6_playPart_43 : decode cX6_playPart 43 = .ok (.iadd, 1) := by decide +kernel
theorem dX6_playPart_44 : decode cX6_playPart 44 = .ok (.invokevirtual 253, 3) := by decide +kernel
theorem dX6_playPart_47 : decode cX6_playPart 47 = .ok (.invokevirtual 256, 3) := by decide +kernel
theorem dX6_playPart_50 : decode cX6_playPart 50 = .ok (.ireturn, 1) := by decide +kernel
theorem dX6_playPart_51 : decode cX6_playPart 51 = .ok (.aload_n 0, 1) := by decide +kernel
theorem dX6_playPart_52 : decode cX6_playPart 52 = .ok (.aload_n 0, 1) := by decide +kernel
theorem dX6_playPart_53 : decode cX6_playPart 53 = .ok (.getfield 26, 3) := by decide +kernel
theorem dX6_playPart_56 : decode cX6_playPart 56 = .ok (.iload_n 1, 1) := by decide +kernel
theorem dX6_playPart_57 : decode cX6_playPart 57 = .ok (.iconst 1, 1) := by decide +kernel
theorem dX6_playPart_58 : decode cX6_playPart 58 = .ok (.iadd, 1) := by decide +kernel
theorem dX6_playPart_59 : decode cX6_playPart 59 = .ok (.invokevirtual 259, 3) := by decide +kernel
theorem dX6_playPart_62 : decode cX6_playPart 62 = .ok (.aload_n 0, 1) := by decide +kernel
theorem dX6_playPart_63 : decode cX6_playPart 63 = .ok (.getfield 26, 3) := by decide +kernel
theorem dX6_playPart_66 : decode cX6_playPart 66 = .ok (.iload_n 1, 1) := by decide +kernel
theorem dX6_playPart_67 : decode cX6_playPart 67 = .ok (.iconst 2, 1) := by decide +kernel
theorem dX6_playPart_68 : decode cX6_playPart 68 = .ok (.iadd, 1) := by decide +kernel
theorem dX6_playPart_69 : decode cX6_playPart 69 = .ok (.invokevirtual 259, 3) := by decide +kernel
theorem dX6_playPart_72 : decode cX6_playPart 72 = .ok (.invokevirtual 262, 3) := by decide +kernel
theorem dX6_playPart_75 : decode cX6_playPart 75 = .ok (.ireturn, 1) := by decide +kernel
theorem dX6_playPart_76 : decode cX6_playPart 76 = .ok (.aload_n 0, 1) := by decide +kernel
theorem dX6_playPart_77 : decode cX6_playPart 77 = .ok (.aload_n 0, 1) := by decide +kernel
theorem dX6_playPart_78 : decode cX6_playPart 78 = .ok (.getfield 26, 3) := by decide +kernel
theorem dX6_playPart_81 : decode cX6_playPart 81 = .ok (.iload_n 1, 1) := by decide +kernel
theorem dX6_playPart_82 : decode cX6_playPart 82 = .ok (.invokevirtual 259, 3) := by decide +kernel
theorem dX6_playPart_85 : decode cX6_playPart 85 = .ok (.aload_n 0, 1) := by decide +kernel
theorem dX6_playPart_86 : decode cX6_playPart 86 = .ok (.getfield 26, 3) := by decide +kernel
theorem dX6_playPart_89 : decode cX6_playPart 89 = .ok (.iload_n 1, 1) := by decide +kernel
theorem dX6_playPart_90 : decode cX6_playPart 90 = .ok (.iconst 2, 1) := by decide +kernel
theorem dX6_playPart_91 : decode cX6_playPart 91 = .ok (.iadd, 1) := by decide +kernel
theorem dX6_playPart_92 : decode cX6_playPart 92 = .ok (.invokevirtual 259, 3) := by decide +kernel
theorem dX6_playPart_95 : decode cX6_playPart 95 = .ok (.aload_n 0, 1) := by decide +kernel
theorem dX6_playPart_96 : decode cX6_playPart 96 = .ok (.getfield 26, 3) := by decide +kernel
theorem dX6_playPart_99 : decode cX6_playPart 99 = .ok (.iload_n 1, 1) := by decide +kernel
theorem dX6_playPart_100 : decode cX6_playPart 100 = .ok (.iconst 3, 1) := by decide +kernel
theorem dX6_playPart_101 : decode cX6_playPart 101 = .ok (.iadd, 1) := by decide +kernel
theorem dX6_playPart_102 : decode cX6_playPart 102 = .ok (.invokevirtual 259, 3) := by decide +kernel
theorem dX6_playPart_105 : decode cX6_playPart 105 = .ok (.invokevirtual 265, 3) := by decide +kernel
theorem dX6_playPart_108 : decode cX6_playPart 108 = .ok (.ireturn, 1) := by decide +kernel
theorem dX6_playDays_0 : decode cX6_playDays 0 = .ok (.aload_n 0, 1) := by decide +kernel
theorem dX6_playDays_1 : decode cX6_playDays 1 = .ok (.getfield 10, 3) := by decide +kernel
theorem dX6_playDays_4 : decode cX6_playDays 4 = .ok (.iload_n 1, 1) := by decide +kernel
theorem dX6_playDays_5 : decode cX6_playDays 5 = .ok (.invokevirtual 50, 3) := by decide +kernel
theorem dX6_playDays_8 : decode cX6_playDays 8 = .ok (.ifCond .ne 5, 3) := by decide +kernel
theorem dX6_playDays_11 : decode cX6_playDays 11 = .ok (.iconst 0, 1) := by decide +kernel
theorem dX6_playDays_12 : decode cX6_playDays 12 = .ok (.ireturn, 1) := by decide +kernel
theorem dX6_playDays_13 : decode cX6_playDays 13 = .ok (.aload_n 0, 1) := by decide +kernel
theorem dX6_playDays_14 : decode cX6_playDays 14 = .ok (.getfield 10, 3) := by decide +kernel
theorem dX6_playDays_17 : decode cX6_playDays 17 = .ok (.iload_n 1, 1) := by decide +kernel
theorem dX6_playDays_18 : decode cX6_playDays 18 = .ok (.invokevirtual 57, 3) := by decide +kernel
theorem dX6_playDays_21 : decode cX6_playDays 21 = .ok (.iconst 1, 1) := by decide +kernel
theorem dX6_playDays_22 : decode cX6_playDays 22 = .ok (.ireturn, 1) := by decide +kernel
theorem dX6_playShot_0 : decode cX6_playShot 0 = .ok (.aload_n 0, 1) := by decide +kernel
theorem dX6_playShot_1 : decode cX6_playShot 1 = .ok (.getfield 10, 3) := by decide +kernel
theorem dX6_playShot_4 : decode cX6_playShot 4 = .ok (.getfield 98, 3) := by decide +kernel
theorem dX6_playShot_7 : decode cX6_playShot 7 = .ok (.iload_n 1, 1) := by decide +kernel
theorem dX6_playShot_8 : decode cX6_playShot 8 = .ok (.invokevirtual 268, 3) := by decide +kernel
theorem dX6_playShot_11 : decode cX6_playShot 11 = .ok (.ifCond .eq 15, 3) := by decide +kernel
theorem dX6_playShot_14 : decode cX6_playShot 14 = .ok (.aload_n 0, 1) := by decide +kernel
theorem dX6_playShot_15 : decode cX6_playShot 15 = .ok (.getfield 10, 3) := by decide +kernel
theorem dX6_playShot_18 : decode cX6_playShot 18 = .ok (.iload_n 1, 1) := by decide +kernel
theorem dX6_playShot_19 : decode cX6_playShot 19 = .ok (.iload_n 2, 1) := by decide +kernel
theorem dX6_playShot_20 : decode cX6_playShot 20 = .ok (.invokevirtual 114, 3) := by decide +kernel
theorem dX6_playShot_23 : decode cX6_playShot 23 = .ok (.ifCond .ne 5, 3) := by decide +kernel
theorem dX6_playShot_26 : decode cX6_playShot 26 = .ok (.iconst 0, 1) := by decide +kernel
theorem dX6_playShot_27 : decode cX6_playShot 27 = .ok (.ireturn, 1) := by decide +kernel
theorem dX6_playShot_28 : decode cX6_playShot 28 = .ok (.aload_n 0, 1) := by decide +kernel
theorem dX6_playShot_29 : decode cX6_playShot 29 = .ok (.getfield 10, 3) := by decide +kernel
theorem dX6_playShot_32 : decode cX6_playShot 32 = .ok (.iload_n 1, 1) := by decide +kernel
theorem dX6_playShot_33 : decode cX6_playShot 33 = .ok (.iload_n 2, 1) := by decide +kernel
theorem dX6_playShot_34 : decode cX6_playShot 34 = .ok (.invokevirtual 117, 3) := by decide +kernel
theorem dX6_playShot_37 : decode cX6_playShot 37 = .ok (.iconst 1, 1) := by decide +kernel
theorem dX6_playShot_38 : decode cX6_playShot 38 = .ok (.ireturn, 1) := by decide +kernel
theorem dX6_playRehearsal_0 : decode cX6_playRehearsal 0 = .ok (.aload_n 0, 1) := by decide +kernel
theorem dX6_playRehearsal_1 : decode cX6_playRehearsal 1 = .ok (.getfield 10, 3) := by decide +kernel
theorem dX6_playRehearsal_4 : decode cX6_playRehearsal 4 = .ok (.iload_n 1, 1) := by decide +kernel
theorem dX6_playRehearsal_5 : decode cX6_playRehearsal 5 = .ok (.iload_n 2, 1) := by decide +kernel
theorem dX6_playRehearsal_6 : decode cX6_playRehearsal 6 = .ok (.invokevirtual 67, 3) := by decide +kernel
theorem dX6_playRehearsal_9 : decode cX6_playRehearsal 9 = .ok (.ifCond .ne 5, 3) := by decide +kernel
theorem dX6_playRehearsal_12 : decode cX6_playRehearsal 12 = .ok (.iconst 0, 1) := by decide +kernel
theorem dX6_playRehearsal_13 : decode cX6_playRehearsal 13 = .ok (.ireturn, 1) := by decide +kernel
theorem dX6_playRehearsal_14 : decode cX6_playRehearsal 14 = .ok (.aload_n 0, 1) := by decide +kernel
theorem dX6_playRehearsal_15 : decode cX6_playRehearsal 15 = .ok (.getfield 10, 3) := by decide +kernel
theorem dX6_playRehearsal_18 : decode cX6_playRehearsal 18 = .ok (.iload_n 1, 1) := by decide +kernel
theorem dX6_playRehearsal_19 : decode cX6_playRehearsal 19 = .ok (.iload_n 2, 1) := by decide +kernel
theorem dX6_playRehearsal_20 : decode cX6_playRehearsal 20 = .ok (.iload_n 3, 1) := by decide +kernel
theorem dX6_playRehearsal_21 : decode cX6_playRehearsal 21 = .ok (.invokevirtual 71, 3) := by decide +kernel
theorem dX6_playRehearsal_24 : decode cX6_playRehearsal 24 = .ok (.pop, 1) := by decide +kernel
theorem dX6_playRehearsal_25 : decode cX6_playRehearsal 25 = .ok (.iconst 1, 1) := by decide +kernel
theorem dX6_playRehearsal_26 : decode cX6_playRehearsal 26 = .ok (.ireturn, 1) := by decide +kernel
theorem dX6_requirePerson_0 : decode cX6_requirePerson 0 = .ok (.iload_n 0, 1) := by decide +kernel
theorem dX6_requirePerson_1 : decode cX6_requirePerson 1 = .ok (.iconst 0, 1) := by decide +kernel
theorem dX6_requirePerson_2 : decode cX6_requirePerson 2 = .ok (.bipush 7, 2) := by decide +kernel
theorem dX6_requirePerson_4 : decode cX6_requirePerson 4 = .ok (.invokestatic 34, 3) := by decide +kernel
theorem dX6_requirePerson_7 : decode cX6_requirePerson 7 = .ok (.ifCond .ne 14, 3) := by decide +kernel
theorem dX6_requirePerson_10 : decode cX6_requirePerson 10 = .ok (.new 271, 3) := by decide +kernel
theorem dX6_requirePerson_13 : decode cX6_requirePerson 13 = .ok (.dup, 1) := by decide +kernel
theorem dX6_requirePerson_14 : decode cX6_requirePerson 14 = .ok (.ldc_w 273, 3) := by decide +kernel
theorem dX6_requirePerson_17 : decode cX6_requirePerson 17 = .ok (.invokespecial 275, 3) := by decide +kernel
theorem dX6_requirePerson_20 : decode cX6_requirePerson 20 = .ok (.athrow, 1) := by decide +kernel
theorem dX6_requirePerson_21 : decode cX6_requirePerson 21 = .ok (.return_, 1) := by decide +kernel
theorem dX6_requireKind_0 : decode cX6_requireKind 0 = .ok (.iload_n 0, 1) := by decide +kernel
theorem dX6_requireKind_1 : decode cX6_requireKind 1 = .ok (.iconst 0, 1) := by decide +kernel
theorem dX6_requireKind_2 : decode cX6_requireKind 2 = .ok (.iconst 5, 1) := by decide +kernel
theorem dX6_requireKind_3 : decode cX6_requireKind 3 = .ok (.invokestatic 34, 3) := by decide +kernel
theorem dX6_requireKind_6 : decode cX6_requireKind 6 = .ok (.ifCond .ne 14, 3) := by decide +kernel
theorem dX6_requireKind_9 : decode cX6_requireKind 9 = .ok (.new 271, 3) := by decide +kernel
theorem dX6_requireKind_12 : decode cX6_requireKind 12 = .ok (.dup, 1) := by decide +kernel
theorem dX6_requireKind_13 : decode cX6_requireKind 13 = .ok (.ldc_w 278, 3) := by decide +kernel
theorem dX6_requireKind_16 : decode cX6_requireKind 16 = .ok (.invokespecial 275, 3) := by decide +kernel
theorem dX6_requireKind_19 : decode cX6_requireKind 19 = .ok (.athrow, 1) := by decide +kernel
theorem dX6_requireKind_20 : decode cX6_requireKind 20 = .ok (.return_, 1) := by decide +kernel
theorem dX6_requireScene_0 : decode cX6_requireScene 0 = .ok (.aload_n 0, 1) := by decide +kernel
theorem dX6_requireScene_1 : decode cX6_requireScene 1 = .ok (.getfield 10, 3) := by decide +kernel
theorem dX6_requireScene_4 : decode cX6_requireScene 4 = .ok (.getfield 98, 3) := by decide +kernel
theorem dX6_requireScene_7 : decode cX6_requireScene 7 = .ok (.iload_n 1, 1) := by decide +kernel
theorem dX6_requireScene_8 : decode cX6_requireScene 8 = .ok (.invokevirtual 268, 3) := by decide +kernel
theorem dX6_requireScene_11 : decode cX6_requireScene 11 = .ok (.ifCond .ne 14, 3) := by decide +kernel
theorem dX6_requireScene_14 : decode cX6_requireScene 14 = .ok (.new 271, 3) := by decide +kernel
theorem dX6_requireScene_17 : decode cX6_requireScene 17 = .ok (.dup, 1) := by decide +kernel
theorem dX6_requireScene_18 : decode cX6_requireScene 18 = .ok (.ldc_w 280, 3) := by decide +kernel
theorem dX6_requireScene_21 : decode cX6_requireScene 21 = .ok (.invokespecial 275, 3) := by decide +kernel
theorem dX6_requireScene_24 : decode cX6_requireScene 24 = .ok (.athrow, 1) := by decide +kernel
theorem dX6_requireScene_25 : decode cX6_requireScene 25 = .ok (.return_, 1) := by decide +kernel
theorem dX6_requireArgument_0 : decode cX6_requireArgument 0 = .ok (.iload_n 0, 1) := by decide +kernel
theorem dX6_requireArgument_1 : decode cX6_requireArgument 1 = .ok (.ifCond .ne 14, 3) := by decide +kernel
theorem dX6_requireArgument_4 : decode cX6_requireArgument 4 = .ok (.new 282, 3) := by decide +kernel
theorem dX6_requireArgument_7 : decode cX6_requireArgument 7 = .ok (.dup, 1) := by decide +kernel
theorem dX6_requireArgument_8 : decode cX6_requireArgument 8 = .ok (.ldc_w 284, 3) := by decide +kernel
theorem dX6_requireArgument_11 : decode cX6_requireArgument 11 = .ok (.invokespecial 286, 3) := by decide +kernel
theorem dX6_requireArgument_14 : decode cX6_requireArgument 14 = .ok (.athrow, 1) := by decide +kernel
theorem dX6_requireArgument_15 : decode cX6_requireArgument 15 = .ok (.return_, 1) := by decide +kernel
theorem dX6_requireState_0 : decode cX6_requireState 0 = .ok (.iload_n 0, 1) := by decide +kernel
theorem dX6_requireState_1 : decode cX6_requireState 1 = .ok (.ifCond .ne 14, 3) := by decide +kernel
theorem dX6_requireState_4 : decode cX6_requireState 4 = .ok (.new 287, 3) := by decide +kernel
theorem dX6_requireState_7 : decode cX6_requireState 7 = .ok (.dup, 1) := by decide +kernel
theorem dX6_requireState_8 : decode cX6_requireState 8 = .ok (.ldc_w 289, 3) := by decide +kernel
theorem dX6_requireState_11 : decode cX6_requireState 11 = .ok (.invokespecial 291, 3) := by decide +kernel
theorem dX6_requireState_14 : decode cX6_requireState 14 = .ok (.athrow, 1) := by decide +kernel
theorem dX6_requireState_15 : decode cX6_requireState 15 = .ok (.return_, 1) := by decide +kernel
theorem dX6_isBetween_0 : decode cX6_isBetween 0 = .ok (.iload_n 0, 1) := by decide +kernel
theorem dX6_isBetween_1 : decode cX6_isBetween 1 = .ok (.iload_n 1, 1) := by decide +kernel
theorem dX6_isBetween_2 : decode cX6_isBetween 2 = .ok (.if_icmp .lt 12, 3) := by decide +kernel
theorem dX6_isBetween_5 : decode cX6_isBetween 5 = .ok (.iload_n 0, 1) := by decide +kernel
theorem dX6_isBetween_6 : decode cX6_isBetween 6 = .ok (.iload_n 2, 1) := by decide +kernel
theorem dX6_isBetween_7 : decode cX6_isBetween 7 = .ok (.if_icmp .gt 7, 3) := by decide +kernel
theorem dX6_isBetween_10 : decode cX6_isBetween 10 = .ok (.iconst 1, 1) := by decide +kernel
theorem dX6_isBetween_11 : decode cX6_isBetween 11 = .ok (.goto 4, 3) := by decide +kernel
theorem dX6_isBetween_14 : decode cX6_isBetween 14 = .ok (.iconst 0, 1) := by decide +kernel
theorem dX6_isBetween_15 : decode cX6_isBetween 15 = .ok (.ireturn, 1) := by decide +kernel
theorem dX6_isPart_0 : decode cX6_isPart 0 = .ok (.iload_n 0, 1) := by decide +kernel
theorem dX6_isPart_1 : decode cX6_isPart 1 = .ok (.iconst 1, 1) := by decide +kernel
theorem dX6_isPart_2 : decode cX6_isPart 2 = .ok (.bipush 32, 2) := by decide +kernel
theorem dX6_isPart_4 : decode cX6_isPart 4 = .ok (.invokestatic 34, 3) := by decide +kernel
theorem dX6_isPart_7 : decode cX6_isPart 7 = .ok (.ifCond .eq 15, 3) := by decide +kernel
theorem dX6_isPart_10 : decode cX6_isPart 10 = .ok (.iload_n 0, 1) := by decide +kernel
theorem dX6_isPart_11 : decode cX6_isPart 11 = .ok (.iload_n 0, 1) := by decide +kernel
theorem dX6_isPart_12 : decode cX6_isPart 12 = .ok (.iconst 1, 1) := by decide +kernel
theorem dX6_isPart_13 : decode cX6_isPart 13 = .ok (.isub, 1) := by decide +kernel
theorem dX6_isPart_14 : decode cX6_isPart 14 = .ok (.iand, 1) := by decide +kernel
theorem dX6_isPart_15 : decode cX6_isPart 15 = .ok (.ifCond .ne 7, 3) := by decide +kernel
theorem dX6_isPart_18 : decode cX6_isPart 18 = .ok (.iconst 1, 1) := by decide +kernel
theorem dX6_isPart_19 : decode cX6_isPart 19 = .ok (.goto 4, 3) := by decide +kernel
theorem dX6_isPart_22 : decode cX6_isPart 22 = .ok (.iconst 0, 1) := by decide +kernel
theorem dX6_isPart_23 : decode cX6_isPart 23 = .ok (.ireturn, 1) := by decide +kernel
theorem dX6_isInsurance_0 : decode cX6_isInsurance 0 = .ok (.iload_n 0, 1) := by decide +kernel
theorem dX6_isInsurance_1 : decode cX6_isInsurance 1 = .ok (.iconst 1, 1) := by decide +kernel
theorem dX6_isInsurance_2 : decode cX6_isInsurance 2 = .ok (.iconst 5, 1) := by decide +kernel
theorem dX6_isInsurance_3 : decode cX6_isInsurance 3 = .ok (.invokestatic 34, 3) := by decide +kernel
theorem dX6_isInsurance_6 : decode cX6_isInsurance 6 = .ok (.ifCond .eq 17, 3) := by decide +kernel
theorem dX6_isInsurance_9 : decode cX6_isInsurance 9 = .ok (.iload_n 1, 1) := by decide +kernel
theorem dX6_isInsurance_10 : decode cX6_isInsurance 10 = .ok (.iconst 1, 1) := by decide +kernel
theorem dX6_isInsurance_11 : decode cX6_isInsurance 11 = .ok (.bipush 60, 2) := by decide +kernel
theorem dX6_isInsurance_13 : decode cX6_isInsurance 13 = .ok (.invokestatic 34, 3) := by decide +kernel
theorem dX6_isInsurance_16 : decode cX6_isInsurance 16 = .ok (.ifCond .eq 7, 3) := by decide +kernel
theorem dX6_isInsurance_19 : decode cX6_isInsurance 19 = .ok (.iconst 1, 1) := by decide +kernel
theorem dX6_isInsurance_20 : decode cX6_isInsurance 20 = .ok (.goto 4, 3) := by decide +kernel
theorem dX6_isInsurance_23 : decode cX6_isInsurance 23 = .ok (.iconst 0, 1) := by decide +kernel
theorem dX6_isInsurance_24 : decode cX6_isInsurance 24 = .ok (.ireturn, 1) := by decide +kernel
theorem dX6_rehearsalsNeeded_0 : decode cX6_rehearsalsNeeded 0 = .ok (.iload_n 0, 1) := by decide +kernel
theorem dX6_rehearsalsNeeded_1 : decode cX6_rehearsalsNeeded 1 = .ok (.tableswitch 49 1 4 #[31, 35, 39, 43], 31) := by decide +kernel
theorem dX6_rehearsalsNeeded_32 : decode cX6_rehearsalsNeeded 32 = .ok (.iload_n 1, 1) := by decide +kernel
theorem dX6_rehearsalsNeeded_33 : decode cX6_rehearsalsNeeded 33 = .ok (.iconst 1, 1) := by decide +kernel
theorem dX6_rehearsalsNeeded_34 : decode cX6_rehearsalsNeeded 34 = .ok (.iadd, 1) := by decide +kernel
theorem dX6_rehearsalsNeeded_35 : decode cX6_rehearsalsNeeded 35 = .ok (.ireturn, 1) := by decide +kernel
theorem dX6_rehearsalsNeeded_36 : decode cX6_rehearsalsNeeded 36 = .ok (.iconst 2, 1) := by decide +kernel
theorem dX6_rehearsalsNeeded_37 : decode cX6_rehearsalsNeeded 37 = .ok (.iload_n 1, 1) := by decide +kernel
theorem dX6_rehearsalsNeeded_38 : decode cX6_rehearsalsNeeded 38 = .ok (.imul, 1) := by decide +kernel
theorem dX6_rehearsalsNeeded_39 : decode cX6_rehearsalsNeeded 39 = .ok (.ireturn, 1) := by decide +kernel
theorem dX6_rehearsalsNeeded_40 : decode cX6_rehearsalsNeeded 40 = .ok (.iload_n 1, 1) := by decide +kernel
theorem dX6_rehearsalsNeeded_41 : decode cX6_rehearsalsNeeded 41 = .ok (.iconst 2, 1) := by decide +kernel
theorem dX6_rehearsalsNeeded_42 : decode cX6_rehearsalsNeeded 42 = .ok (.iadd, 1) := by decide +kernel
theorem dX6_rehearsalsNeeded_43 : decode cX6_rehearsalsNeeded 43 = .ok (.ireturn, 1) := by decide +kernel
theorem dX6_rehearsalsNeeded_44 : decode cX6_rehearsalsNeeded 44 = .ok (.iload_n 1, 1) := by decide +kernel
theorem dX6_rehearsalsNeeded_45 : decode cX6_rehearsalsNeeded 45 = .ok (.iconst 2, 1) := by decide +kernel
theorem dX6_rehearsalsNeeded_46 : decode cX6_rehearsalsNeeded 46 = .ok (.idiv, 1) := by decide +kernel
theorem dX6_rehearsalsNeeded_47 : decode cX6_rehearsalsNeeded 47 = .ok (.iconst 1, 1) := by decide +kernel
theorem dX6_rehearsalsNeeded_48 : decode cX6_rehearsalsNeeded 48 = .ok (.iadd, 1) := by decide +kernel
theorem dX6_rehearsalsNeeded_49 : decode cX6_rehearsalsNeeded 49 = .ok (.ireturn, 1) := by decide +kernel
theorem dX6_rehearsalsNeeded_50 : decode cX6_rehearsalsNeeded 50 = .ok (.iload_n 1, 1) := by decide +kernel
theorem dX6_rehearsalsNeeded_51 : decode cX6_rehearsalsNeeded 51 = .ok (.ireturn, 1) := by decide +kernel
theorem dX6_barsKind_0 : decode cX6_barsKind 0 = .ok (.iload_n 0, 1) := by decide +kernel
theorem dX6_barsKind_1 : decode cX6_barsKind 1 = .ok (.getstatic 176, 3) := by decide +kernel
theorem dX6_barsKind_4 : decode cX6_barsKind 4 = .ok (.iload_n 1, 1) := by decide +kernel
theorem dX6_barsKind_5 : decode cX6_barsKind 5 = .ok (.invokestatic 172, 3) := by decide +kernel
theorem dX6_barsKind_8 : decode cX6_barsKind 8 = .ok (.iand, 1) := by decide +kernel
theorem dX6_barsKind_9 : decode cX6_barsKind 9 = .ok (.ifCond .eq 7, 3) := by decide +kernel
theorem dX6_barsKind_12 : decode cX6_barsKind 12 = .ok (.iconst 1, 1) := by decide +kernel
theorem dX6_barsKind_13 : decode cX6_barsKind 13 = .ok (.goto 4, 3) := by decide +kernel
theorem dX6_barsKind_16 : decode cX6_barsKind 16 = .ok (.iconst 0, 1) := by decide +kernel
theorem dX6_barsKind_17 : decode cX6_barsKind 17 = .ok (.ireturn, 1) := by decide +kernel
theorem dX6_at_0 : decode cX6_at 0 = .ok (.aload_n 0, 1) := by decide +kernel
theorem dX6_at_1 : decode cX6_at 1 = .ok (.ifnull 19, 3) := by decide +kernel
theorem dX6_at_4 : decode cX6_at 4 = .ok (.iload_n 1, 1) := by decide +kernel
theorem dX6_at_5 : decode cX6_at 5 = .ok (.ifCond .lt 15, 3) := by decide +kernel
theorem dX6_at_8 : decode cX6_at 8 = .ok (.iload_n 1, 1) := by decide +kernel
theorem dX6_at_9 : decode cX6_at 9 = .ok (.aload_n 0, 1) := by decide +kernel
theorem dX6_at_10 : decode cX6_at 10 = .ok (.arraylength, 1) := by decide +kernel
theorem dX6_at_11 : decode cX6_at 11 = .ok (.if_icmp .ge 9, 3) := by decide +kernel
theorem dX6_at_14 : decode cX6_at 14 = .ok (.aload_n 0, 1) := by decide +kernel
theorem dX6_at_15 : decode cX6_at 15 = .ok (.iload_n 1, 1) := by decide +kernel
theorem dX6_at_16 : decode cX6_at 16 = .ok (.iaload, 1) := by decide +kernel
theorem dX6_at_17 : decode cX6_at 17 = .ok (.goto 4, 3) := by decide +kernel
theorem dX6_at_20 : decode cX6_at 20 = .ok (.iconst 0, 1) := by decide +kernel
theorem dX6_at_21 : decode cX6_at 21 = .ok (.ireturn, 1) := by decide +kernel
theorem dX6_put_0 : decode cX6_put 0 = .ok (.aload_n 0, 1) := by decide +kernel
theorem dX6_put_1 : decode cX6_put 1 = .ok (.ifnull 17, 3) := by decide +kernel
theorem dX6_put_4 : decode cX6_put 4 = .ok (.iload_n 1, 1) := by decide +kernel
theorem dX6_put_5 : decode cX6_put 5 = .ok (.ifCond .lt 13, 3) := by decide +kernel
theorem dX6_put_8 : decode cX6_put 8 = .ok (.iload_n 1, 1) := by decide +kernel
theorem dX6_put_9 : decode cX6_put 9 = .ok (.aload_n 0, 1) := by decide +kernel
theorem dX6_put_10 : decode cX6_put 10 = .ok (.arraylength, 1) := by decide +kernel
theorem dX6_put_11 : decode cX6_put 11 = .ok (.if_icmp .ge 7, 3) := by decide +kernel
theorem dX6_put_14 : decode cX6_put 14 = .ok (.aload_n 0, 1) := by decide +kernel
theorem dX6_put_15 : decode cX6_put 15 = .ok (.iload_n 1, 1) := by decide +kernel
theorem dX6_put_16 : decode cX6_put 16 = .ok (.iload_n 2, 1) := by decide +kernel
theorem dX6_put_17 : decode cX6_put 17 = .ok (.iastore, 1) := by decide +kernel
theorem dX6_put_18 : decode cX6_put 18 = .ok (.return_, 1) := by decide +kernel
theorem dX6_copyRow_0 : decode cX6_copyRow 0 = .ok (.aload_n 0, 1) := by decide +kernel
theorem dX6_copyRow_1 : decode cX6_copyRow 1 = .ok (.ifnull 7, 3) := by decide +kernel
theorem dX6_copyRow_4 : decode cX6_copyRow 4 = .ok (.aload_n 1, 1) := by decide +kernel
theorem dX6_copyRow_5 : decode cX6_copyRow 5 = .ok (.ifnonnull 4, 3) := by decide +kernel
theorem dX6_copyRow_8 : decode cX6_copyRow 8 = .ok (.return_, 1) := by decide +kernel
theorem dX6_copyRow_9 : decode cX6_copyRow 9 = .ok (.iconst 0, 1) := by decide +kernel
theorem dX6_copyRow_10 : decode cX6_copyRow 10 = .ok (.istore_n 2, 1) := by decide +kernel
theorem dX6_copyRow_11 : decode cX6_copyRow 11 = .ok (.iload_n 2, 1) := by decide +kernel
theorem dX6_copyRow_12 : decode cX6_copyRow 12 = .ok (.aload_n 0, 1) := by decide +kernel
theorem dX6_copyRow_13 : decode cX6_copyRow 13 = .ok (.arraylength, 1) := by decide +kernel
theorem dX6_copyRow_14 : decode cX6_copyRow 14 = .ok (.if_icmp .ge 21, 3) := by decide +kernel
theorem dX6_copyRow_17 : decode cX6_copyRow 17 = .ok (.iload_n 2, 1) := by decide +kernel
theorem dX6_copyRow_18 : decode cX6_copyRow 18 = .ok (.aload_n 1, 1) := by decide +kernel
theorem dX6_copyRow_19 : decode cX6_copyRow 19 = .ok (.arraylength, 1) := by decide +kernel
theorem dX6_copyRow_20 : decode cX6_copyRow 20 = .ok (.if_icmp .ge 15, 3) := by decide +kernel
theorem dX6_copyRow_23 : decode cX6_copyRow 23 = .ok (.aload_n 1, 1) := by decide +kernel
theorem dX6_copyRow_24 : decode cX6_copyRow 24 = .ok (.iload_n 2, 1) := by decide +kernel
theorem dX6_copyRow_25 : decode cX6_copyRow 25 = .ok (.aload_n 0, 1) := by decide +kernel
theorem dX6_copyRow_26 : decode cX6_copyRow 26 = .ok (.iload_n 2, 1) := by decide +kernel
theorem dX6_copyRow_27 : decode cX6_copyRow 27 = .ok (.iaload, 1) := by decide +kernel
theorem dX6_copyRow_28 : decode cX6_copyRow 28 = .ok (.iastore, 1) := by decide +kernel
theorem dX6_copyRow_29 : decode cX6_copyRow 29 = .ok (.iinc 2 1, 3) := by decide +kernel
theorem dX6_copyRow_32 : decode cX6_copyRow 32 = .ok (.goto (-21), 3) := by decide +kernel
theorem dX6_copyRow_35 : decode cX6_copyRow 35 = .ok (.return_, 1) := by decide +kernel
theorem dX6_dropFirst_0 : decode cX6_dropFirst 0 = .ok (.aload_n 0, 1) := by decide +kernel
theorem dX6_dropFirst_1 : decode cX6_dropFirst 1 = .ok (.ifnonnull 4, 3) := by decide +kernel
theorem dX6_dropFirst_4 : decode cX6_dropFirst 4 = .ok (.return_, 1) := by decide +kernel
theorem dX6_dropFirst_5 : decode cX6_dropFirst 5 = .ok (.iconst 0, 1) := by decide +kernel
theorem dX6_dropFirst_6 : decode cX6_dropFirst 6 = .ok (.istore_n 1, 1) := by decide +kernel
theorem dX6_dropFirst_7 : decode cX6_dropFirst 7 = .ok (.iload_n 1, 1) := by decide +kernel
theorem dX6_dropFirst_8 : decode cX6_dropFirst 8 = .ok (.iconst 1, 1) := by decide +kernel
theorem dX6_dropFirst_9 : decode cX6_dropFirst 9 = .ok (.iadd, 1) := by decide +kernel
theorem dX6_dropFirst_10 : decode cX6_dropFirst 10 = .ok (.aload_n 0, 1) := by decide +kernel
theorem dX6_dropFirst_11 : decode cX6_dropFirst 11 = .ok (.arraylength, 1) := by decide +kernel
theorem dX6_dropFirst_12 : decode cX6_dropFirst 12 = .ok (.if_icmp .ge 17, 3) := by decide +kernel
theorem dX6_dropFirst_15 : decode cX6_dropFirst 15 = .ok (.aload_n 0, 1) := by decide +kernel
theorem dX6_dropFirst_16 : decode cX6_dropFirst 16 = .ok (.iload_n 1, 1) := by decide +kernel
theorem dX6_dropFirst_17 : decode cX6_dropFirst 17 = .ok (.aload_n 0, 1) := by decide +kernel
theorem dX6_dropFirst_18 : decode cX6_dropFirst 18 = .ok (.iload_n 1, 1) := by decide +kernel
theorem dX6_dropFirst_19 : decode cX6_dropFirst 19 = .ok (.iconst 1, 1) := by decide +kernel
theorem dX6_dropFirst_20 : decode cX6_dropFirst 20 = .ok (.iadd, 1) := by decide +kernel
theorem dX6_dropFirst_21 : decode cX6_dropFirst 21 = .ok (.iaload, 1) := by decide +kernel
theorem dX6_dropFirst_22 : decode cX6_dropFirst 22 = .ok (.iastore, 1) := by decide +kernel
theorem dX6_dropFirst_23 : decode cX6_dropFirst 23 = .ok (.iinc 1 1, 3) := by decide +kernel
theorem dX6_dropFirst_26 : decode cX6_dropFirst 26 = .ok (.goto (-19), 3) := by decide +kernel
theorem dX6_dropFirst_29 : decode cX6_dropFirst 29 = .ok (.return_, 1) := by decide +kernel
end
section
theorem dX7_init_0 : decode cX7_init 0 = .ok (.aload_n 0, 1) := by decide +kernel
theorem dX7_init_1 : decode cX7_init 1 = .ok (.invokespecial 1, 3) := by decide +kernel
theorem dX7_init_4 : decode cX7_init 4 = .ok (.aload_n 0, 1) := by decide +kernel
theorem dX7_init_5 : decode cX7_init 5 = .ok (.sipush 300, 3) := by decide +kernel
theorem dX7_init_8 : decode cX7_init 8 = .ok (.newarray .int, 2) := by decide +kernel
theorem dX7_init_10 : decode cX7_init 10 = .ok (.putfield 7, 3) := by decide +kernel
theorem dX7_init_13 : decode cX7_init 13 = .ok (.aload_n 0, 1) := by decide +kernel
theorem dX7_init_14 : decode cX7_init 14 = .ok (.sipush 1800, 3) := by decide +kernel
theorem dX7_init_17 : decode cX7_init 17 = .ok (.newarray .int, 2) := by decide +kernel
theorem dX7_init_19 : decode cX7_init 19 = .ok (.putfield 13, 3) := by decide +kernel
theorem dX7_init_22 : decode cX7_init 22 = .ok (.aload_n 0, 1) := by decide +kernel
theorem dX7_init_23 : decode cX7_init 23 = .ok (.bipush 60, 2) := by decide +kernel
theorem dX7_init_25 : decode cX7_init 25 = .ok (.newarray .int, 2) := by decide +kernel
theorem dX7_init_27 : decode cX7_init 27 = .ok (.putfield 16, 3) := by decide +kernel
theorem dX7_init_30 : decode cX7_init 30 = .ok (.aload_n 0, 1) := by decide +kernel
theorem dX7_init_31 : decode cX7_init 31 = .ok (.iconst 3, 1) := by decide +kernel
theorem dX7_init_32 : decode cX7_init 32 = .ok (.newarray .int, 2) := by decide +kernel
theorem dX7_init_34 : decode cX7_init 34 = .ok (.putfield 19, 3) := by decide +kernel
theorem dX7_init_37 : decode cX7_init 37 = .ok (.aload_n 0, 1) := by decide +kernel
theorem dX7_init_38 : decode cX7_init 38 = .ok (.getfield 7, 3) := by decide +kernel
theorem dX7_init_41 : decode cX7_init 41 = .ok (.iconst 1, 1) := by decide +kernel
theorem dX7_init_42 : decode cX7_init 42 = .ok (.sipush 2000, 3) := by decide +kernel
theorem dX7_init_45 : decode cX7_init 45 = .ok (.iastore, 1) := by decide +kernel
theorem dX7_init_46 : decode cX7_init 46 = .ok (.aload_n 0, 1) := by decide +kernel
theorem dX7_init_47 : decode cX7_init 47 = .ok (.getfield 7, 3) := by decide +kernel
theorem dX7_init_50 : decode cX7_init 50 = .ok (.iconst 3, 1) := by decide +kernel
theorem dX7_init_51 : decode cX7_init 51 = .ok (.iconst (-1), 1) := by decide +kernel
theorem dX7_init_52 : decode cX7_init 52 = .ok (.iastore, 1) := by decide +kernel
theorem dX7_init_53 : decode cX7_init 53 = .ok (.iconst 0, 1) := by decide +kernel
theorem dX7_init_54 : decode cX7_init 54 = .ok (.istore_n 1, 1) := by decide +kernel
theorem dX7_init_55 : decode cX7_init 55 = .ok (.iload_n 1, 1) := by decide +kernel
theorem dX7_init_56 : decode cX7_init 56 = .ok (.bipush 8, 2) := by decide +kernel
theorem dX7_init_58 : decode cX7_init 58 = .ok (.if_icmp .ge 31, 3) := by decide +kernel
theorem dX7_init_61 : decode cX7_init 61 = .ok (.aload_n 0, 1) := by decide +kernel
theorem dX7_init_62 : decode cX7_init 62 = .ok (.getfield 7, 3) := by decide +kernel
theorem dX7_init_65 : decode cX7_init 65 = .ok (.bipush 10, 2) := by decide +kernel
theorem dX7_init_67 : decode cX7_init 67 = .ok (.iload_n 1, 1) := by decide +kernel
theorem dX7_init_68 : decode cX7_init 68 = .ok (.iadd, 1) := by decide +kernel
theorem dX7_init_69 : decode cX7_init 69 = .ok (.sipush 170, 3) := by decide +kernel
theorem dX7_init_72 : decode cX7_init 72 = .ok (.iastore, 1) := by decide +kernel
theorem dX7_init_73 : decode cX7_init 73 = .ok (.aload_n 0, 1) := by decide +kernel
theorem dX7_init_74 : decode cX7_init 74 = .ok (.getfield 7, 3) := by decide +kernel
theorem dX7_init_77 : decode cX7_init 77 = .ok (.bipush 18, 2) := by decide +kernel
theorem dX7_init_79 : decode cX7_init 79 = .ok (.iload_n 1, 1) := by decide +kernel
theorem dX7_init_80 : decode cX7_init 80 = .ok (.iadd, 1) := by decide +kernel
theorem dX7_init_81 : decode cX7_init 81 = .ok (.iconst (-1), 1) := by decide +kernel
theorem dX7_init_82 : decode cX7_init 82 = .ok (.iastore, 1) := by decide +kernel
theorem dX7_init_83 : decode cX7_init 83 = .ok (.iinc 1 1, 3) := by decide +kernel
theorem dX7_init_86 : decode cX7_init 86 = .ok (.goto (-31), 3) := by decide +kernel
theorem dX7_init_89 : decode cX7_init 89 = .ok (.return_, 1) := by decide +kernel
theorem dX7_thrown_0 : decode cX7_thrown 0 = .ok (.aload_n 0, 1) := by decide +kernel
theorem dX7_thrown_1 : decode cX7_thrown 1 = .ok (.getfield 22, 3) := by decide +kernel
theorem dX7_thrown_4 : decode cX7_thrown 4 = .ok (.ireturn, 1) := by decide +kernel
theorem dX7_fails_0 : decode cX7_fails 0 = .ok (.aload_n 0, 1) := by decide +kernel
theorem dX7_fails_1 : decode cX7_fails 1 = .ok (.iload_n 1, 1) := by decide +kernel
theorem dX7_fails_2 : decode cX7_fails 2 = .ok (.putfield 22, 3) := by decide +kernel
theorem dX7_fails_5 : decode cX7_fails 5 = .ok (.iconst 0, 1) := by decide +kernel
theorem dX7_fails_6 : decode cX7_fails 6 = .ok (.ireturn, 1) := by decide +kernel
theorem dX7_within_0 : decode cX7_within 0 = .ok (.iload_n 0, 1) := by decide +kernel
theorem dX7_within_1 : decode cX7_within 1 = .ok (.iload_n 1, 1) := by decide +kernel
theorem dX7_within_2 : decode cX7_within 2 = .ok (.if_icmp .lt 12, 3) := by decide +kernel
theorem dX7_within_5 : decode cX7_within 5 = .ok (.iload_n 0, 1) := by decide +kernel
theorem dX7_within_6 : decode cX7_within 6 = .ok (.iload_n 2, 1) := by decide +kernel
theorem dX7_within_7 : decode cX7_within 7 = .ok (.if_icmp .gt 7, 3) := by decide +kernel
theorem dX7_within_10 : decode cX7_within 10 = .ok (.iconst 1, 1) := by decide +kernel
theorem dX7_within_11 : decode cX7_within 11 = .ok (.goto 4, 3) := by decide +kernel
theorem dX7_within_14 : decode cX7_within 14 = .ok (.iconst 0, 1) := by decide +kernel
theorem dX7_within_15 : decode cX7_within 15 = .ok (.ireturn, 1) := by decide +kernel
theorem dX7_isPerson_0 : decode cX7_isPerson 0 = .ok (.iload_n 0, 1) := by decide +kernel
theorem dX7_isPerson_1 : decode cX7_isPerson 1 = .ok (.iconst 0, 1) := by decide +kernel
theorem dX7_isPerson_2 : decode cX7_isPerson 2 = .ok (.bipush 7, 2) := by decide +kernel
theorem dX7_isPerson_4 : decode cX7_isPerson 4 = .ok (.invokestatic 26, 3) := by decide +kernel
theorem dX7_isPerson_7 : decode cX7_isPerson 7 = .ok (.ireturn, 1) := by decide +kernel
theorem dX7_isKind_0 : decode cX7_isKind 0 = .ok (.iload_n 0, 1) := by decide +kernel
theorem dX7_isKind_1 : decode cX7_isKind 1 = .ok (.iconst 0, 1) := by decide +kernel
theorem dX7_isKind_2 : decode cX7_isKind 2 = .ok (.iconst 5, 1) := by decide +kernel
theorem dX7_isKind_3 : decode cX7_isKind 3 = .ok (.invokestatic 26, 3) := by decide +kernel
theorem dX7_isKind_6 : decode cX7_isKind 6 = .ok (.ireturn, 1) := by decide +kernel
theorem dX7_isRisk_0 : decode cX7_isRisk 0 = .ok (.iload_n 0, 1) := by decide +kernel
theorem dX7_isRisk_1 : decode cX7_isRisk 1 = .ok (.iconst 1, 1) := by decide +kernel
theorem dX7_isRisk_2 : decode cX7_isRisk 2 = .ok (.iconst 5, 1) := by decide +kernel
theorem dX7_isRisk_3 : decode cX7_isRisk 3 = .ok (.invokestatic 26, 3) := by decide +kernel
theorem dX7_isRisk_6 : decode cX7_isRisk 6 = .ok (.ireturn, 1) := by decide +kernel
theorem dX7_isPart_0 : decode cX7_isPart 0 = .ok (.iload_n 0, 1) := by decide +kernel
theorem dX7_isPart_1 : decode cX7_isPart 1 = .ok (.iconst 1, 1) := by decide +kernel
theorem dX7_isPart_2 : decode cX7_isPart 2 = .ok (.if_icmp .eq 31, 3) := by decide +kernel
theorem dX7_isPart_5 : decode cX7_isPart 5 = .ok (.iload_n 0, 1) := by decide +kernel
theorem dX7_isPart_6 : decode cX7_isPart 6 = .ok (.iconst 2, 1) := by decide +kernel
theorem dX7_isPart_7 : decode cX7_isPart 7 = .ok (.if_icmp .eq 26, 3) := by decide +kernel
theorem dX7_isPart_10 : decode cX7_isPart 10 = .ok (.iload_n 0, 1) := by decide +kernel
theorem dX7_isPart_11 : decode cX7_isPart 11 = .ok (.iconst 4, 1) := by decide +kernel
theorem dX7_isPart_12 : decode cX7_isPart 12 = .ok (.if_icmp .eq 21, 3) := by decide +kernel
theorem dX7_isPart_15 : decode cX7_isPart 15 = .ok (.iload_n 0, 1) := by decide +kernel
theorem dX7_isPart_16 : decode cX7_isPart 16 = .ok (.bipush 8, 2) := by decide +kernel
theorem dX7_isPart_18 : decode cX7_isPart 18 = .ok (.if_icmp .eq 15, 3) := by decide +kernel
theorem dX7_isPart_21 : decode cX7_isPart 21 = .ok (.iload_n 0, 1) := by decide +kernel
theorem dX7_isPart_22 : decode cX7_isPart 22 = .ok (.bipush 16, 2) := by decide +kernel
theorem dX7_isPart_24 : decode cX7_isPart 24 = .ok (.if_icmp .eq 9, 3) := by decide +kernel
theorem dX7_isPart_27 : decode cX7_isPart 27 = .ok (.iload_n 0, 1) := by decide +kernel
theorem dX7_isPart_28 : decode cX7_isPart 28 = .ok (.bipush 32, 2) := by decide +kernel
theorem dX7_isPart_30 : decode cX7_isPart 30 = .ok (.if_icmp .ne 7, 3) := by decide +kernel
theorem dX7_isPart_33 : decode cX7_isPart 33 = .ok (.iconst 1, 1) := by decide +kernel
theorem dX7_isPart_34 : decode cX7_isPart 34 = .ok (.goto 4, 3) := by decide +kernel
theorem dX7_isPart_37 : decode cX7_isPart 37 = .ok (.iconst 0, 1) := by decide +kernel
theorem dX7_isPart_38 : decode cX7_isPart 38 = .ok (.ireturn, 1) := by decide +kernel
theorem dX7_isScene_0 : decode cX7_isScene 0 = .ok (.iload_n 1, 1) := by decide +kernel
theorem dX7_isScene_1 : decode cX7_isScene 1 = .ok (.iconst 0, 1) := by decide +kernel
theorem dX7_isScene_2 : decode cX7_isScene 2 = .ok (.aload_n 0, 1) := by decide +kernel
theorem dX7_isScene_3 : decode cX7_isScene 3 = .ok (.getfield 7, 3) := by decide +kernel
theorem dX7_isScene_6 : decode cX7_isScene 6 = .ok (.iconst 4, 1) := by decide +kernel
theorem dX7_isScene_7 : decode cX7_isScene 7 = .ok (.iaload, 1) := by decide +kernel
theorem dX7_isScene_8 : decode cX7_isScene 8 = .ok (.iconst 1, 1) := by decide +kernel
theorem dX7_isScene_9 : decode cX7_isScene 9 = .ok (.isub, 1) := by decide +kernel
theorem dX7_isScene_10 : decode cX7_isScene 10 = .ok (.invokestatic 26, 3) := by decide +kernel
theorem dX7_isScene_13 : decode cX7_isScene 13 = .ok (.ireturn, 1) := by decide +kernel
theorem dX7_save_0 : decode cX7_save 0 = .ok (.aload_n 0, 1) := by decide +kernel
theorem dX7_save_1 : decode cX7_save 1 = .ok (.getfield 30, 3) := by decide +kernel
theorem dX7_save_4 : decode cX7_save 4 = .ok (.bipush 6, 2) := by decide +kernel
theorem dX7_save_6 : decode cX7_save 6 = .ok (.if_icmp .ne 44, 3) := by decide +kernel
theorem dX7_save_9 : decode cX7_save 9 = .ok (.iconst 0, 1) := by decide +kernel
theorem dX7_save_10 : decode cX7_save 10 = .ok (.istore_n 1, 1) := by decide +kernel
theorem dX7_save_11 : decode cX7_save 11 = .ok (.iload_n 1, 1) := by decide +kernel
theorem dX7_save_12 : decode cX7_save 12 = .ok (.sipush 1500, 3) := by decide +kernel
theorem dX7_save_15 : decode cX7_save 15 = .ok (.if_icmp .ge 25, 3) := by decide +kernel
theorem dX7_save_18 : decode cX7_save 18 = .ok (.aload_n 0, 1) := by decide +kernel
theorem dX7_save_19 : decode cX7_save 19 = .ok (.getfield 13, 3) := by decide +kernel
theorem dX7_save_22 : decode cX7_save 22 = .ok (.iload_n 1, 1) := by decide +kernel
theorem dX7_save_23 : decode cX7_save 23 = .ok (.aload_n 0, 1) := by decide +kernel
theorem dX7_save_24 : decode cX7_save 24 = .ok (.getfield 13, 3) := by decide +kernel
theorem dX7_save_27 : decode cX7_save 27 = .ok (.iload_n 1, 1) := by decide +kernel
theorem dX7_save_28 : decode cX7_save 28 = .ok (.sipush 300, 3) := by decide +kernel
theorem dX7_save_31 : decode cX7_save 31 = .ok (.iadd, 1) := by decide +kernel
theorem dX7_save_32 : decode cX7_save 32 = .ok (.iaload, 1) := by decide +kernel
theorem dX7_save_33 : decode cX7_save 33 = .ok (.iastore, 1) := by decide +kernel
theorem dX7_save_34 : decode cX7_save 34 = .ok (.iinc 1 1, 3) := by decide +kernel
theorem dX7_save_37 : decode cX7_save 37 = .ok (.goto (-26), 3) := by decide +kernel
theorem dX7_save_40 : decode cX7_save 40 = .ok (.aload_n 0, 1) := by decide +kernel
theorem dX7_save_41 : decode cX7_save 41 = .ok (.dup, 1) := by decide +kernel
theorem dX7_save_42 : decode cX7_save 42 = .ok (.getfield 30, 3) := by decide +kernel
theorem dX7_save_45 : decode cX7_save 45 = .ok (.iconst 1, 1) := by decide +kernel
theorem dX7_save_46 : decode cX7_save 46 = .ok (.isub, 1) := by decide +kernel
theorem dX7_save_47 : decode cX7_save 47 = .ok (.putfield 30, 3) := by decide +kernel
theorem dX7_save_50 : decode cX7_save 50 = .ok (.iconst 0, 1) := by decide +kernel
theorem dX7_save_51 : decode cX7_save 51 = .ok (.istore_n 1, 1) := by decide +kernel
theorem dX7_save_52 : decode cX7_save 52 = .ok (.iload_n 1, 1) := by decide +kernel
theorem dX7_save_53 : decode cX7_save 53 = .ok (.sipush 300, 3) := by decide +kernel
theorem dX7_save_56 : decode cX7_save 56 = .ok (.if_icmp .ge 30, 3) := by decide +kernel
theorem dX7_save_59 : decode cX7_save 59 = .ok (.aload_n 0, 1) := by decide +kernel
theorem dX7_save_60 : decode cX7_save 60 = .ok (.getfield 13, 3) := by decide +kernel
theorem dX7_save_63 : decode cX7_save 63 = .ok (.aload_n 0, 1) := by decide +kernel
theorem dX7_save_64 : decode cX7_save 64 = .ok (.getfield 30, 3) := by decide +kernel
theorem dX7_save_67 : decode cX7_save 67 = .ok (.sipush 300, 3) := by decide +kernel
theorem dX7_save_70 : decode cX7_save 70 = .ok (.imul, 1) := by decide +kernel
theorem dX7_save_71 : decode cX7_save 71 = .ok (.iload_n 1, 1) := by decide +kernel
theorem dX7_save_72 : decode cX7_save 72 = .ok (.iadd, 1) := by decide +kernel
theorem dX7_save_73 : decode cX7_save 73 = .ok (.aload_n 0, 1) := by decide +kernel
theorem dX7_save_74 : decode cX7_save 74 = .ok (.getfield 7, 3) := by decide +kernel
theorem dX7_save_77 : decode cX7_save 77 = .ok (.iload_n 1, 1) := by decide +kernel
theorem dX7_save_78 : decode cX7_save 78 = .ok (.iaload, 1) := by decide +kernel
theorem dX7_save_79 : decode cX7_save 79 = .ok (.iastore, 1) := by decide +kernel
theorem dX7_save_80 : decode cX7_save 80 = .ok (.iinc 1 1, 3) := by decide +kernel
theorem dX7_save_83 : decode cX7_save 83 = .ok (.goto (-31), 3) := by decide +kernel
theorem dX7_save_86 : decode cX7_save 86 = .ok (.aload_n 0, 1) := by decide +kernel
theorem dX7_save_87 : decode cX7_save 87 = .ok (.dup, 1) := by decide +kernel
theorem dX7_save_88 : decode cX7_save 88 = .ok (.getfield 30, 3) := by decide +kernel
theorem dX7_save_91 : decode cX7_save 91 = .ok (.iconst 1, 1) := by decide +kernel
theorem dX7_save_92 : decode cX7_save 92 = .ok (.iadd, 1) := by decide +kernel
theorem dX7_save_93 : decode cX7_save 93 = .ok (.putfield 30, 3) := by decide +kernel
theorem dX7_save_96 : decode cX7_save 96 = .ok (.return_, 1) := by decide +kernel
theorem dX7_undo_0 : decode cX7_undo 0 = .ok (.aload_n 0, 1) := by decide +kernel
theorem dX7_undo_1 : decode cX7_undo 1 = .ok (.iconst 0, 1) := by decide +kernel
theorem dX7_undo_2 : decode cX7_undo 2 = .ok (.putfield 22, 3) := by decide +kernel
theorem dX7_undo_5 : decode cX7_undo 5 = .ok (.aload_n 0, 1) := by decide +kernel
theorem dX7_undo_6 : decode cX7_undo 6 = .ok (.getfield 30, 3) := by decide +kernel
theorem dX7_undo_9 : decode cX7_undo 9 = .ok (.ifCond .ne 9, 3) := by decide +kernel
theorem dX7_undo_12 : decode cX7_undo 12 = .ok (.aload_n 0, 1) := by decide +kernel
theorem dX7_undo_13 : decode cX7_undo 13 = .ok (.iconst 1, 1) := by decide +kernel
theorem dX7_undo_14 : decode cX7_undo 14 = .ok (.invokevirtual 33, 3) := by decide +kernel
theorem dX7_undo_17 : decode cX7_undo 17 = .ok (.ireturn, 1) := by decide +kernel
theorem dX7_undo_18 : decode cX7_undo 18 = .ok (.aload_n 0, 1) := by decide +kernel
theorem dX7_undo_19 : decode cX7_undo 19 = .ok (.dup, 1) := by decide +kernel
theorem dX7_undo_20 : decode cX7_undo 20 = .ok (.getfield 30, 3) := by decide +kernel
theorem dX7_undo_23 : decode cX7_undo 23 = .ok (.iconst 1, 1) := by decide +kernel
theorem dX7_undo_24 : decode cX7_undo 24 = .ok (.isub, 1) := by decide +kernel
theorem dX7_undo_25 : decode cX7_undo 25 = .ok (.putfield 30, 3) := by decide +kernel
theorem dX7_undo_28 : decode cX7_undo 28 = .ok (.iconst 0, 1) := by decide +kernel
theorem dX7_undo_29 : decode cX7_undo 29 = .ok (.istore_n 1, 1) := by decide +kernel
theorem dX7_undo_30 : decode cX7_undo 30 = .ok (.iload_n 1, 1) := by decide +kernel
theorem dX7_undo_31 : decode cX7_undo 31 = .ok (.sipush 300, 3) := by decide +kernel
theorem dX7_undo_34 : decode cX7_undo 34 = .ok (.if_icmp .ge 30, 3) := by decide +kernel
theorem dX7_undo_37 : decode cX7_undo 37 = .ok (.aload_n 0, 1) := by decide +kernel
theorem dX7_undo_38 : decode cX7_undo 38 = .ok (.getfield 7, 3) := by decide +kernel
theorem dX7_undo_41 : decode cX7_undo 41 = .ok (.iload_n 1, 1) := by decide +kernel
theorem dX7_undo_42 : decode cX7_undo 42 = .ok (.aload_n 0, 1) := by decide +kernel
theorem dX7_undo_43 : decode cX7_undo 43 = .ok (.getfield 13, 3) := by decide +kernel
theorem dX7_undo_46 : decode cX7_undo 46 = .ok (.aload_n 0, 1) := by decide +kernel
theorem dX7_undo_47 : decode cX7_undo 47 = .ok (.getfield 30, 3) := by decide +kernel
theorem dX7_undo_50 : decode cX7_undo 50 = .ok (.sipush 300, 3) := by decide +kernel
theorem dX7_undo_53 : decode cX7_undo 53 = .ok (.imul, 1) := by decide +kernel
theorem dX7_undo_54 : decode cX7_undo 54 = .ok (.iload_n 1, 1) := by decide +kernel
theorem dX7_undo_55 : decode cX7_undo 55 = .ok (.iadd, 1) := by decide +kernel
theorem dX7_undo_56 : decode cX7_undo 56 = .ok (.iaload, 1) := by decide +kernel
theorem dX7_undo_57 : decode cX7_undo 57 = .ok (.iastore, 1) := by decide +kernel
theorem dX7_undo_58 : decode cX7_undo 58 = .ok (.iinc 1 1, 3) := by decide +kernel
theorem dX7_undo_61 : decode cX7_undo 61 = .ok (.goto (-31), 3) := by decide +kernel
theorem dX7_undo_64 : decode cX7_undo 64 = .ok (.aload_n 0, 1) := by decide +kernel
theorem dX7_undo_65 : decode cX7_undo 65 = .ok (.getfield 30, 3) := by decide +kernel
theorem dX7_undo_68 : decode cX7_undo 68 = .ok (.ireturn, 1) := by decide +kernel
theorem dX7_needs_0 : decode cX7_needs 0 = .ok (.iload_n 0, 1) := by decide +kernel
theorem dX7_needs_1 : decode cX7_needs 1 = .ok (.tableswitch 49 1 4 #[31, 35, 39, 43], 31) := by decide +kernel
theorem dX7_needs_32 : decode cX7_needs 32 = .ok (.iload_n 1, 1) := by decide +kernel
theorem dX7_needs_33 : decode cX7_needs 33 = .ok (.iconst 1, 1) := by decide +kernel
theorem dX7_needs_34 : decode cX7_needs 34 = .ok (.iadd, 1) := by decide +kernel
theorem dX7_needs_35 : decode cX7_needs 35 = .ok (.ireturn, 1) := by decide +kernel
theorem dX7_needs_36 : decode cX7_needs 36 = .ok (.iconst 2, 1) := by decide +kernel
theorem dX7_needs_37 : decode cX7_needs 37 = .ok (.iload_n 1, 1) := by decide +kernel
theorem dX7_needs_38 : decode cX7_needs 38 = .ok (.imul, 1) := by decide +kernel
theorem dX7_needs_39 : decode cX7_needs 39 = .ok (.ireturn, 1) := by decide +kernel
theorem dX7_needs_40 : decode cX7_needs 40 = .ok (.iload_n 1, 1) := by decide +kernel
theorem dX7_needs_41 : decode cX7_needs 41 = .ok (.iconst 2, 1) := by decide +kernel
theorem dX7_needs_42 : decode cX7_needs 42 = .ok (.iadd, 1) := by decide +kernel
theorem dX7_needs_43 : decode cX7_needs 43 = .ok (.ireturn, 1) := by decide +kernel
theorem dX7_needs_44 : decode cX7_needs 44 = .ok (.iload_n 1, 1) := by decide +kernel
theorem dX7_needs_45 : decode cX7_needs 45 = .ok (.iconst 2, 1) := by decide +kernel
theorem dX7_needs_46 : decode cX7_needs 46 = .ok (.idiv, 1) := by decide +kernel
theorem dX7_needs_47 : decode cX7_needs 47 = .ok (.iconst 1, 1) := by decide +kernel
theorem dX7_needs_48 : decode cX7_needs 48 = .ok (.iadd, 1) := by decide +kernel
theorem dX7_needs_49 : decode cX7_needs 49 = .ok (.ireturn, 1) := by decide +kernel
theorem dX7_needs_50 : decode cX7_needs 50 = .ok (.iload_n 1, 1) := by decide +kernel
theorem dX7_needs_51 : decode cX7_needs 51 = .ok (.ireturn, 1) := by decide +kernel
theorem dX7_countsFor_0 : decode cX7_countsFor 0 = .ok (.iload_n 0, 1) := by decide +kernel
theorem dX7_countsFor_1 : decode cX7_countsFor 1 = .ok (.tableswitch 50 0 4 #[35, 38, 41, 44, 47], 35) := by decide +kernel
theorem dX7_countsFor_36 : decode cX7_countsFor 36 = .ok (.bipush 20, 2) := by decide +kernel
theorem dX7_countsFor_38 : decode cX7_countsFor 38 = .ok (.ireturn, 1) := by decide +kernel
theorem dX7_countsFor_39 : decode cX7_countsFor 39 = .ok (.bipush 15, 2) := by decide +kernel
theorem dX7_countsFor_41 : decode cX7_countsFor 41 = .ok (.ireturn, 1) := by decide +kernel
theorem dX7_countsFor_42 : decode cX7_countsFor 42 = .ok (.bipush 10, 2) := by decide +kernel
theorem dX7_countsFor_44 : decode cX7_countsFor 44 = .ok (.ireturn, 1) := by decide +kernel
theorem dX7_countsFor_45 : decode cX7_countsFor 45 = .ok (.bipush 12, 2) := by decide +kernel
theorem dX7_countsFor_47 : decode cX7_countsFor 47 = .ok (.ireturn, 1) := by decide +kernel
theorem dX7_countsFor_48 : decode cX7_countsFor 48 = .ok (.bipush 30, 2) := by decide +kernel
theorem dX7_countsFor_50 : decode cX7_countsFor 50 = .ok (.ireturn, 1) := by decide +kernel
theorem dX7_countsFor_51 : decode cX7_countsFor 51 = .ok (.bipush 25, 2) := by decide +kernel
theorem dX7_countsFor_53 : decode cX7_countsFor 53 = .ok (.ireturn, 1) := by decide +kernel
theorem dX7_barringParts_0 : decode cX7_barringParts 0 = .ok (.iload_n 0, 1) := by decide +kernel
theorem dX7_barringParts_1 : decode cX7_barringParts 1 = .ok (.tableswitch 49 0 4 #[35, 37, 40, 43, 46], 35) := by decide +kernel
theorem dX7_barringParts_36 : decode cX7_barringParts 36 = .ok (.iconst 3, 1) := by decide +kernel
theorem dX7_barringParts_37 : decode cX7_barringParts 37 = .ok (.ireturn, 1) := by decide +kernel
theorem dX7_barringParts_38 : decode cX7_barringParts 38 = .ok (.bipush 28, 2) := by decide +kernel
theorem dX7_barringParts_40 : decode cX7_barringParts 40 = .ok (.ireturn, 1) := by decide +kernel
theorem dX7_barringParts_41 : decode cX7_barringParts 41 = .ok (.bipush 63, 2) := by decide +kernel
theorem dX7_barringParts_43 : decode cX7_barringParts 43 = .ok (.ireturn, 1) := by decide +kernel
theorem dX7_barringParts_44 : decode cX7_barringParts 44 = .ok (.bipush 48, 2) := by decide +kernel
theorem dX7_barringParts_46 : decode cX7_barringParts 46 = .ok (.ireturn, 1) := by decide +kernel
theorem dX7_barringParts_47 : decode cX7_barringParts 47 = .ok (.bipush 32, 2) := by decide +kernel
theorem dX7_barringParts_49 : decode cX7_barringParts 49 = .ok (.ireturn, 1) := by decide +kernel
theorem dX7_barringParts_50 : decode cX7_barringParts 50 = .ok (.bipush 35, 2) := by decide +kernel
theorem dX7_barringParts_52 : decode cX7_barringParts 52 = .ok (.ireturn, 1) := by decide +kernel
theorem dX7_partOfRehearsal_0 : decode cX7_partOfRehearsal 0 = .ok (.iload_n 0, 1) := by decide +kernel
theorem dX7_partOfRehearsal_1 : decode cX7_partOfRehearsal 1 = .ok (.ifCond .eq 8, 3) := by decide +kernel
theorem dX7_partOfRehearsal_4 : decode cX7_partOfRehearsal 4 = .ok (.iload_n 0, 1) := by decide +kernel
theorem dX7_partOfRehearsal_5 : decode cX7_partOfRehearsal 5 = .ok (.iconst 5, 1) := by decide +kernel
theorem dX7_partOfRehearsal_6 : decode cX7_partOfRehearsal 6 = .ok (.if_icmp .ne 7, 3) := by decide +kernel
theorem dX7_partOfRehearsal_9 : decode cX7_partOfRehearsal 9 = .ok (.iconst 1, 1) := by decide +kernel
theorem dX7_partOfRehearsal_10 : decode cX7_partOfRehearsal 10 = .ok (.goto 19, 3) := by decide +kernel
theorem dX7_partOfRehearsal_13 : decode cX7_partOfRehearsal 13 = .ok (.iload_n 0, 1) := by decide +kernel
theorem dX7_partOfRehearsal_14 : decode cX7_partOfRehearsal 14 = .ok (.iconst 1, 1) := by decide +kernel
theorem dX7_partOfRehearsal_15 : decode cX7_partOfRehearsal 15 = .ok (.if_icmp .eq 8, 3) := by decide +kernel
theorem dX7_partOfRehearsal_18 : decode cX7_partOfRehearsal 18 = .ok (.iload_n 0, 1) := by decide +kernel
theorem dX7_partOfRehearsal_19 : decode cX7_partOfRehearsal 19 = .ok (.iconst 4, 1) := by decide +kernel
theorem dX7_partOfRehearsal_20 : decode cX7_partOfRehearsal 20 = .ok (.if_icmp .ne 7, 3) := by decide +kernel
theorem dX7_partOfRehearsal_23 : decode cX7_partOfRehearsal 23 = .ok (.iconst 4, 1) := by decide +kernel
theorem dX7_partOfRehearsal_24 : decode cX7_partOfRehearsal 24 = .ok (.goto 5, 3) := by decide +kernel
theorem dX7_partOfRehearsal_27 : decode cX7_partOfRehearsal 27 = .ok (.bipush 16, 2) := by decide +kernel
theorem dX7_partOfRehearsal_29 : decode cX7_partOfRehearsal 29 = .ok (.ireturn, 1) := by decide +kernel
theorem dX7_ofInjury_0 : decode cX7_ofInjury 0 = .ok (.aload_n 0, 1) := by decide +kernel
theorem dX7_ofInjury_1 : decode cX7_ofInjury 1 = .ok (.getfield 7, 3) := by decide +kernel
theorem dX7_ofInjury_4 : decode cX7_ofInjury 4 = .ok (.sipush 202, 3) := by decide +kernel
theorem dX7_ofInjury_7 : decode cX7_ofInjury 7 = .ok (.iconst 4, 1) := by decide +kernel
theorem dX7_ofInjury_8 : decode cX7_ofInjury 8 = .ok (.iload_n 1, 1) := by decide +kernel
theorem dX7_ofInjury_9 : decode cX7_ofInjury 9 = .ok (.imul, 1) := by decide +kernel
theorem dX7_ofInjury_10 : decode cX7_ofInjury 10 = .ok (.iadd, 1) := by decide +kernel
theorem dX7_ofInjury_11 : decode cX7_ofInjury 11 = .ok (.iload_n 2, 1) := by decide +kernel
theorem dX7_ofInjury_12 : decode cX7_ofInjury 12 = .ok (.iadd, 1) := by decide +kernel
theorem dX7_ofInjury_13 : decode cX7_ofInjury 13 = .ok (.iaload, 1) := by decide +kernel
theorem dX7_ofInjury_14 : decode cX7_ofInjury 14 = .ok (.ireturn, 1) := by decide +kernel
theorem dX7_hurtParts_0 : decode cX7_hurtParts 0 = .ok (.iconst 0, 1) := by decide +kernel
theorem dX7_hurtParts_1 : decode cX7_hurtParts 1 = .ok (.istore_n 3, 1) := by decide +kernel
theorem dX7_hurtParts_2 : decode cX7_hurtParts 2 = .ok (.iconst 0, 1) := by decide +kernel
theorem dX7_hurtParts_3 : decode cX7_hurtParts 3 = .ok (.istore 4, 2) := by decide +kernel
theorem dX7_hurtParts_5 : decode cX7_hurtParts 5 = .ok (.iload 4, 2) := by decide +kernel
theorem dX7_hurtParts_7 : decode cX7_hurtParts 7 = .ok (.aload_n 0, 1) := by decide +kernel
theorem dX7_hurtParts_8 : decode cX7_hurtParts 8 = .ok (.getfield 7, 3) := by decide +kernel
theorem dX7_hurtParts_11 : decode cX7_hurtParts 11 = .ok (.bipush 9, 2) := by decide +kernel
theorem dX7_hurtParts_13 : decode cX7_hurtParts 13 = .ok (.iaload, 1) := by decide +kernel
theorem dX7_hurtParts_14 : decode cX7_hurtParts 14 = .ok (.if_icmp .ge 67, 3) := by decide +kernel
theorem dX7_hurtParts_17 : decode cX7_hurtParts 17 = .ok (.aload_n 0, 1) := by decide +kernel
theorem dX7_hurtParts_18 : decode cX7_hurtParts 18 = .ok (.iload 4, 2) := by decide +kernel
theorem dX7_hurtParts_20 : decode cX7_hurtParts 20 = .ok (.iconst 0, 1) := by decide +kernel
theorem dX7_hurtParts_21 : decode cX7_hurtParts 21 = .ok (.invokevirtual 37, 3) := by decide +kernel
theorem dX7_hurtParts_24 : decode cX7_hurtParts 24 = .ok (.iload_n 1, 1) := by decide +kernel
theorem dX7_hurtParts_25 : decode cX7_hurtParts 25 = .ok (.if_icmp .ne 28, 3) := by decide +kernel
theorem dX7_hurtParts_28 : decode cX7_hurtParts 28 = .ok (.iload_n 2, 1) := by decide +kernel
theorem dX7_hurtParts_29 : decode cX7_hurtParts 29 = .ok (.aload_n 0, 1) := by decide +kernel
theorem dX7_hurtParts_30 : decode cX7_hurtParts 30 = .ok (.iload 4, 2) := by decide +kernel
theorem dX7_hurtParts_32 : decode cX7_hurtParts 32 = .ok (.iconst 2, 1) := by decide +kernel
theorem dX7_hurtParts_33 : decode cX7_hurtParts 33 = .ok (.invokevirtual 37, 3) := by decide +kernel
theorem dX7_hurtParts_36 : decode cX7_hurtParts 36 = .ok (.aload_n 0, 1) := by decide +kernel
theorem dX7_hurtParts_37 : decode cX7_hurtParts 37 = .ok (.iload 4, 2) := by decide +kernel
theorem dX7_hurtParts_39 : decode cX7_hurtParts 39 = .ok (.iconst 3, 1) := by decide +kernel
theorem dX7_hurtParts_40 : decode cX7_hurtParts 40 = .ok (.invokevirtual 37, 3) := by decide +kernel
theorem dX7_hurtParts_43 : decode cX7_hurtParts 43 = .ok (.invokestatic 26, 3) := by decide +kernel
theorem dX7_hurtParts_46 : decode cX7_hurtParts 46 = .ok (.ifCond .eq 7, 3) := by decide +kernel
theorem dX7_hurtParts_49 : decode cX7_hurtParts 49 = .ok (.iconst 1, 1) := by decide +kernel
theorem dX7_hurtParts_50 : decode cX7_hurtParts 50 = .ok (.goto 4, 3) := by decide +kernel
theorem dX7_hurtParts_53 : decode cX7_hurtParts 53 = .ok (.iconst 0, 1) := by decide +kernel
theorem dX7_hurtParts_54 : decode cX7_hurtParts 54 = .ok (.istore 5, 2) := by decide +kernel
theorem dX7_hurtParts_56 : decode cX7_hurtParts 56 = .ok (.iload_n 3, 1) := by decide +kernel
theorem dX7_hurtParts_57 : decode cX7_hurtParts 57 = .ok (.iload 5, 2) := by decide +kernel
theorem dX7_hurtParts_59 : decode cX7_hurtParts 59 = .ok (.ifCond .eq 13, 3) := by decide +kernel
theorem dX7_hurtParts_62 : decode cX7_hurtParts 62 = .ok (.aload_n 0, 1) := by decide +kernel
theorem dX7_hurtParts_63 : decode cX7_hurtParts 63 = .ok (.iload 4, 2) := by decide +kernel
theorem dX7_hurtParts_65 : decode cX7_hurtParts 65 = .ok (.iconst 1, 1) := by decide +kernel
theorem dX7_hurtParts_66 : decode cX7_hurtParts 66 = .ok (.invokevirtual 37, 3) := by decide +kernel
theorem dX7_hurtParts_69 : decode cX7_hurtParts 69 = .ok (.goto 4, 3) := by decide +kernel
theorem dX7_hurtParts_72 : decode cX7_hurtParts 72 = .ok (.iconst 0, 1) := by decide +kernel
theorem dX7_hurtParts_73 : decode cX7_hurtParts 73 = .ok (.ior, 1) := by decide +kernel
theorem dX7_hurtParts_74 : decode cX7_hurtParts 74 = .ok (.istore_n 3, 1) := by decide +kernel
theorem dX7_hurtParts_75 : decode cX7_hurtParts 75 = .ok (.iinc 4 1, 3) := by decide +kernel
theorem dX7_hurtParts_78 : decode cX7_hurtParts 78 = .ok (.goto (-73), 3) := by decide +kernel
theorem dX7_hurtParts_81 : decode cX7_hurtParts 81 = .ok (.iload_n 3, 1) := by decide +kernel
theorem dX7_hurtParts_82 : decode cX7_hurtParts 82 = .ok (.ireturn, 1) := by decide +kernel
theorem dX7_lastHurtDay_0 : decode cX7_lastHurtDay 0 = .ok (.iconst (-1), 1) := by decide +kernel
theorem dX7_lastHurtDay_1 : decode cX7_lastHurtDay 1 = .ok (.istore_n 2, 1) := by decide +kernel
theorem dX7_lastHurtDay_2 : decode cX7_lastHurtDay 2 = .ok (.iconst 0, 1) := by decide +kernel
theorem dX7_lastHurtDay_3 : decode cX7_lastHurtDay 3 = .ok (.istore_n 3, 1) := by decide +kernel
theorem dX7_lastHurtDay_4 : decode cX7_lastHurtDay 4 = .ok (.iload_n 3, 1) := by decide +kernel
theorem dX7_lastHurtDay_5 : decode cX7_lastHurtDay 5 = .ok (.aload_n 0, 1) := by decide +kernel
theorem dX7_lastHurtDay_6 : decode cX7_lastHurtDay 6 = .ok (.getfield 7, 3) := by decide +kernel
theorem dX7_lastHurtDay_9 : decode cX7_lastHurtDay 9 = .ok (.bipush 9, 2) := by decide +kernel
theorem dX7_lastHurtDay_11 : decode cX7_lastHurtDay 11 = .ok (.iaload, 1) := by decide +kernel
theorem dX7_lastHurtDay_12 : decode cX7_lastHurtDay 12 = .ok (.if_icmp .ge 76, 3) := by decide +kernel
theorem dX7_lastHurtDay_15 : decode cX7_lastHurtDay 15 = .ok (.aload_n 0, 1) := by decide +kernel
theorem dX7_lastHurtDay_16 : decode cX7_lastHurtDay 16 = .ok (.iload_n 3, 1) := by decide +kernel
theorem dX7_lastHurtDay_17 : decode cX7_lastHurtDay 17 = .ok (.iconst 0, 1) := by decide +kernel
theorem dX7_lastHurtDay_18 : decode cX7_lastHurtDay 18 = .ok (.invokevirtual 37, 3) := by decide +kernel
theorem dX7_lastHurtDay_21 : decode cX7_lastHurtDay 21 = .ok (.iload_n 1, 1) := by decide +kernel
theorem dX7_lastHurtDay_22 : decode cX7_lastHurtDay 22 = .ok (.if_icmp .ne 31, 3) := by decide +kernel
theorem dX7_lastHurtDay_25 : decode cX7_lastHurtDay 25 = .ok (.aload_n 0, 1) := by decide +kernel
theorem dX7_lastHurtDay_26 : decode cX7_lastHurtDay 26 = .ok (.getfield 7, 3) := by decide +kernel
theorem dX7_lastHurtDay_29 : decode cX7_lastHurtDay 29 = .ok (.iconst 0, 1) := by decide +kernel
theorem dX7_lastHurtDay_30 : decode cX7_lastHurtDay 30 = .ok (.iaload, 1) := by decide +kernel
theorem dX7_lastHurtDay_31 : decode cX7_lastHurtDay 31 = .ok (.aload_n 0, 1) := by decide +kernel
theorem dX7_lastHurtDay_32 : decode cX7_lastHurtDay 32 = .ok (.iload_n 3, 1) := by decide +kernel
theorem dX7_lastHurtDay_33 : decode cX7_lastHurtDay 33 = .ok (.iconst 2, 1) := by decide +kernel
theorem dX7_lastHurtDay_34 : decode cX7_lastHurtDay 34 = .ok (.invokevirtual 37, 3) := by decide +kernel
theorem dX7_lastHurtDay_37 : decode cX7_lastHurtDay 37 = .ok (.aload_n 0, 1) := by decide +kernel
theorem dX7_lastHurtDay_38 : decode cX7_lastHurtDay 38 = .ok (.iload_n 3, 1) := by decide +kernel
theorem dX7_lastHurtDay_39 : decode cX7_lastHurtDay 39 = .ok (.iconst 3, 1) := by decide +kernel
theorem dX7_lastHurtDay_40 : decode cX7_lastHurtDay 40 = .ok (.invokevirtual 37, 3) := by decide +kernel
theorem dX7_lastHurtDay_43 : decode cX7_lastHurtDay 43 = .ok (.invokestatic 26, 3) := by decide +kernel
theorem dX7_lastHurtDay_46 : decode cX7_lastHurtDay 46 = .ok (.ifCond .eq 7, 3) := by decide +kernel
theorem dX7_lastHurtDay_49 : decode cX7_lastHurtDay 49 = .ok (.iconst 1, 1) := by decide +kernel
theorem dX7_lastHurtDay_50 : decode cX7_lastHurtDay 50 = .ok (.goto 4, 3) := by decide +kernel
theorem dX7_lastHurtDay_53 : decode cX7_lastHurtDay 53 = .ok (.iconst 0, 1) := by decide +kernel
theorem dX7_lastHurtDay_54 : decode cX7_lastHurtDay 54 = .ok (.istore 4, 2) := by decide +kernel
theorem dX7_lastHurtDay_56 : decode cX7_lastHurtDay 56 = .ok (.iload 4, 2) := by decide +kernel
theorem dX7_lastHurtDay_58 : decode cX7_lastHurtDay 58 = .ok (.ifCond .eq 22, 3) := by decide +kernel
theorem dX7_lastHurtDay_61 : decode cX7_lastHurtDay 61 = .ok (.aload_n 0, 1) := by decide +kernel
theorem dX7_lastHurtDay_62 : decode cX7_lastHurtDay 62 = .ok (.iload_n 3, 1) := by decide +kernel
theorem dX7_lastHurtDay_63 : decode cX7_lastHurtDay 63 = .ok (.iconst 3, 1) := by decide +kernel
theorem dX7_lastHurtDay_64 : decode cX7_lastHurtDay 64 = .ok (.invokevirtual 37, 3) := by decide +kernel
theorem dX7_lastHurtDay_67 : decode cX7_lastHurtDay 67 = .ok (.iload_n 2, 1) := by decide +kernel
theorem dX7_lastHurtDay_68 : decode cX7_lastHurtDay 68 = .ok (.if_icmp .le 12, 3) := by decide +kernel
theorem dX7_lastHurtDay_71 : decode cX7_lastHurtDay 71 = .ok (.aload_n 0, 1) := by decide +kernel
theorem dX7_lastHurtDay_72 : decode cX7_lastHurtDay 72 = .ok (.iload_n 3, 1) := by decide +kernel
theorem dX7_lastHurtDay_73 : decode cX7_lastHurtDay 73 = .ok (.iconst 3, 1) := by decide +kernel
theorem dX7_lastHurtDay_74 : decode cX7_lastHurtDay 74 = .ok (.invokevirtual 37, 3) := by decide +kernel
theorem dX7_lastHurtDay_77 : decode cX7_lastHurtDay 77 = .ok (.goto 4, 3) := by decide +kernel
theorem dX7_lastHurtDay_80 : decode cX7_lastHurtDay 80 = .ok (.iload_n 2, 1) := by decide +kernel
theorem dX7_lastHurtDay_81 : decode cX7_lastHurtDay 81 = .ok (.istore_n 2, 1) := by decide +kernel
theorem dX7_lastHurtDay_82 : decode cX7_lastHurtDay 82 = .ok (.iinc 3 1, 3) := by decide +kernel
theorem dX7_lastHurtDay_85 : decode cX7_lastHurtDay 85 = .ok (.goto (-81), 3) := by decide +kernel
theorem dX7_lastHurtDay_88 : decode cX7_lastHurtDay 88 = .ok (.iload_n 2, 1) := by decide +kernel
theorem dX7_lastHurtDay_89 : decode cX7_lastHurtDay 89 = .ok (.ireturn, 1) := by decide +kernel
theorem dX7_isBarred_0 : decode cX7_isBarred 0 = .ok (.aload_n 0, 1) := by decide +kernel
theorem dX7_isBarred_1 : decode cX7_isBarred 1 = .ok (.iload_n 1, 1) := by decide +kernel
theorem dX7_isBarred_2 : decode cX7_isBarred 2 = .ok (.iload_n 3, 1) := by decide +kernel
theorem dX7_isBarred_3 : decode cX7_isBarred 3 = .ok (.invokevirtual 41, 3) := by decide +kernel
theorem dX7_isBarred_6 : decode cX7_isBarred 6 = .ok (.iload_n 2, 1) := by decide +kernel
theorem dX7_isBarred_7 : decode cX7_isBarred 7 = .ok (.invokestatic 44, 3) := by decide +kernel
theorem dX7_isBarred_10 : decode cX7_isBarred 10 = .ok (.iand, 1) := by decide +kernel
theorem dX7_isBarred_11 : decode cX7_isBarred 11 = .ok (.ifCond .eq 7, 3) := by decide +kernel
theorem dX7_isBarred_14 : decode cX7_isBarred 14 = .ok (.iconst 1, 1) := by decide +kernel
theorem dX7_isBarred_15 : decode cX7_isBarred 15 = .ok (.goto 4, 3) := by decide +kernel
theorem dX7_isBarred_18 : decode cX7_isBarred 18 = .ok (.iconst 0, 1) := by decide +kernel
theorem dX7_isBarred_19 : decode cX7_isBarred 19 = .ok (.ireturn, 1) := by decide +kernel
theorem dX7_barredKinds_0 : decode cX7_barredKinds 0 = .ok (.iconst 0, 1) := by decide +kernel
theorem dX7_barredKinds_1 : decode cX7_barredKinds 1 = .ok (.istore_n 2, 1) := by decide +kernel
theorem dX7_barredKinds_2 : decode cX7_barredKinds 2 = .ok (.iconst 0, 1) := by decide +kernel
theorem dX7_barredKinds_3 : decode cX7_barredKinds 3 = .ok (.istore_n 3, 1) := by decide +kernel
theorem dX7_barredKinds_4 : decode cX7_barredKinds 4 = .ok (.iload_n 3, 1) := by decide +kernel
theorem dX7_barredKinds_5 : decode cX7_barredKinds 5 = .ok (.bipush 6, 2) := by decide +kernel
theorem dX7_barredKinds_7 : decode cX7_barredKinds 7 = .ok (.if_icmp .ge 34, 3) := by decide +kernel
theorem dX7_barredKinds_10 : decode cX7_barredKinds 10 = .ok (.iload_n 2, 1) := by decide +kernel
theorem dX7_barredKinds_11 : decode cX7_barredKinds 11 = .ok (.aload_n 0, 1) := by decide +kernel
theorem dX7_barredKinds_12 : decode cX7_barredKinds 12 = .ok (.iload_n 1, 1) := by decide +kernel
theorem dX7_barredKinds_13 : decode cX7_barredKinds 13 = .ok (.iload_n 3, 1) := by decide +kernel
theorem dX7_barredKinds_14 : decode cX7_barredKinds 14 = .ok (.aload_n 0, 1) := by decide +kernel
theorem dX7_barredKinds_15 : decode cX7_barredKinds 15 = .ok (.getfield 7, 3) := by decide +kernel
theorem dX7_barredKinds_18 : decode cX7_barredKinds 18 = .ok (.iconst 0, 1) := by decide +kernel
theorem dX7_barredKinds_19 : decode cX7_barredKinds 19 = .ok (.iaload, 1) := by decide +kernel
theorem dX7_barredKinds_20 : decode cX7_barredKinds 20 = .ok (.invokevirtual 47, 3) := by decide +kernel
theorem dX7_barredKinds_23 : decode cX7_barredKinds 23 = .ok (.ifCond .eq 9, 3) := by decide +kernel
theorem dX7_barredKinds_26 : decode cX7_barredKinds 26 = .ok (.iconst 1, 1) := by decide +kernel
theorem dX7_barredKinds_27 : decode cX7_barredKinds 27 = .ok (.iload_n 3, 1) := by decide +kernel
theorem dX7_barredKinds_28 : decode cX7_barredKinds 28 = .ok (.ishl, 1) := by decide +kernel
theorem dX7_barredKinds_29 : decode cX7_barredKinds 29 = .ok (.goto 4, 3) := by decide +kernel
theorem dX7_barredKinds_32 : decode cX7_barredKinds 32 = .ok (.iconst 0, 1) := by decide +kernel
theorem dX7_barredKinds_33 : decode cX7_barredKinds 33 = .ok (.ior, 1) := by decide +kernel
theorem dX7_barredKinds_34 : decode cX7_barredKinds 34 = .ok (.istore_n 2, 1) := by decide +kernel
theorem dX7_barredKinds_35 : decode cX7_barredKinds 35 = .ok (.iinc 3 1, 3) := by decide +kernel
theorem dX7_barredKinds_38 : decode cX7_barredKinds 38 = .ok (.goto (-34), 3) := by decide +kernel
theorem dX7_barredKinds_41 : decode cX7_barredKinds 41 = .ok (.iload_n 2, 1) := by decide +kernel
theorem dX7_barredKinds_42 : decode cX7_barredKinds 42 = .ok (.ireturn, 1) := by decide +kernel
theorem dX7_ofRehearsal_0 : decode cX7_ofRehearsal 0 = .ok (.aload_n 0, 1) := by decide +kernel
theorem dX7_ofRehearsal_1 : decode cX7_ofRehearsal 1 = .ok (.getfield 7, 3) := by decide +kernel
theorem dX7_ofRehearsal_4 : decode cX7_ofRehearsal 4 = .ok (.bipush 42, 2) := by decide +kernel
theorem dX7_ofRehearsal_6 : decode cX7_ofRehearsal 6 = .ok (.iconst 4, 1) := by decide +kernel
theorem dX7_ofRehearsal_7 : decode cX7_ofRehearsal 7 = .ok (.iload_n 1, 1) := by decide +kernel
theorem dX7_ofRehearsal_8 : decode cX7_ofRehearsal 8 = .ok (.imul, 1) := by decide +kernel
theorem dX7_ofRehearsal_9 : decode cX7_ofRehearsal 9 = .ok (.iadd, 1) := by decide +kernel
theorem dX7_ofRehearsal_10 : decode cX7_ofRehearsal 10 = .ok (.iload_n 2, 1) := by decide +kernel
theorem dX7_ofRehearsal_11 : decode cX7_ofRehearsal 11 = .ok (.iadd, 1) := by decide +kernel
theorem dX7_ofRehearsal_12 : decode cX7_ofRehearsal 12 = .ok (.iaload, 1) := by decide +kernel
theorem dX7_ofRehearsal_13 : decode cX7_ofRehearsal 13 = .ok (.ireturn, 1) := by decide +kernel
theorem dX7_counting_0 : decode cX7_counting 0 = .ok (.iconst 0, 1) := by decide +kernel
theorem dX7_counting_1 : decode cX7_counting 1 = .ok (.istore 5, 2) := by decide +kernel
theorem dX7_counting_3 : decode cX7_counting 3 = .ok (.iconst 0, 1) := by decide +kernel
theorem dX7_counting_4 : decode cX7_counting 4 = .ok (.istore 6, 2) := by decide +kernel
theorem dX7_counting_6 : decode cX7_counting 6 = .ok (.iload 6, 2) := by decide +kernel
theorem dX7_counting_8 : decode cX7_counting 8 = .ok (.aload_n 0, 1) := by decide +kernel
theorem dX7_counting_9 : decode cX7_counting 9 = .ok (.getfield 7, 3) := by decide +kernel
theorem dX7_counting_12 : decode cX7_counting 12 = .ok (.bipush 8, 2) := by decide +kernel
theorem dX7_counting_14 : decode cX7_counting 14 = .ok (.iaload, 1) := by decide +kernel
theorem dX7_counting_15 : decode cX7_counting 15 = .ok (.if_icmp .ge 94, 3) := by decide +kernel
theorem dX7_counting_18 : decode cX7_counting 18 = .ok (.aload_n 0, 1) := by decide +kernel
theorem dX7_counting_19 : decode cX7_counting 19 = .ok (.iload 6, 2) := by decide +kernel
theorem dX7_counting_21 : decode cX7_counting 21 = .ok (.iconst 0, 1) := by decide +kernel
theorem dX7_counting_22 : decode cX7_counting 22 = .ok (.invokevirtual 50, 3) := by decide +kernel
theorem dX7_counting_25 : decode cX7_counting 25 = .ok (.iload_n 1, 1) := by decide +kernel
theorem dX7_counting_26 : decode cX7_counting 26 = .ok (.if_icmp .ne 31, 3) := by decide +kernel
theorem dX7_counting_29 : decode cX7_counting 29 = .ok (.aload_n 0, 1) := by decide +kernel
theorem dX7_counting_30 : decode cX7_counting 30 = .ok (.iload 6, 2) := by decide +kernel
theorem dX7_counting_32 : decode cX7_counting 32 = .ok (.iconst 1, 1) := by decide +kernel
theorem dX7_counting_33 : decode cX7_counting 33 = .ok (.invokevirtual 50, 3) := by decide +kernel
theorem dX7_counting_36 : decode cX7_counting 36 = .ok (.iload_n 2, 1) := by decide +kernel
theorem dX7_counting_37 : decode cX7_counting 37 = .ok (.if_icmp .ne 20, 3) := by decide +kernel
theorem dX7_counting_40 : decode cX7_counting 40 = .ok (.aload_n 0, 1) := by decide +kernel
theorem dX7_counting_41 : decode cX7_counting 41 = .ok (.iload 6, 2) := by decide +kernel
theorem dX7_counting_43 : decode cX7_counting 43 = .ok (.iconst 2, 1) := by decide +kernel
theorem dX7_counting_44 : decode cX7_counting 44 = .ok (.invokevirtual 50, 3) := by decide +kernel
theorem dX7_counting_47 : decode cX7_counting 47 = .ok (.iload_n 3, 1) := by decide +kernel
theorem dX7_counting_48 : decode cX7_counting 48 = .ok (.iconst 1, 1) := by decide +kernel
theorem dX7_counting_49 : decode cX7_counting 49 = .ok (.isub, 1) := by decide +kernel
theorem dX7_counting_50 : decode cX7_counting 50 = .ok (.if_icmp .lt 7, 3) := by decide +kernel
theorem dX7_counting_53 : decode cX7_counting 53 = .ok (.iconst 1, 1) := by decide +kernel
theorem dX7_counting_54 : decode cX7_counting 54 = .ok (.goto 4, 3) := by decide +kernel
theorem dX7_counting_57 : decode cX7_counting 57 = .ok (.iconst 0, 1) := by decide +kernel
theorem dX7_counting_58 : decode cX7_counting 58 = .ok (.istore 7, 2) := by decide +kernel
theorem dX7_counting_60 : decode cX7_counting 60 = .ok (.aload_n 0, 1) := by decide +kernel
theorem dX7_counting_61 : decode cX7_counting 61 = .ok (.iload 6, 2) := by decide +kernel
theorem dX7_counting_63 : decode cX7_counting 63 = .ok (.iconst 3, 1) := by decide +kernel
theorem dX7_counting_64 : decode cX7_counting 64 = .ok (.invokevirtual 50, 3) := by decide +kernel
theorem dX7_counting_67 : decode cX7_counting 67 = .ok (.istore 8, 2) := by decide +kernel
theorem dX7_counting_69 : decode cX7_counting 69 = .ok (.iload 5, 2) := by decide +kernel
theorem dX7_counting_71 : decode cX7_counting 71 = .ok (.iload 7, 2) := by decide +kernel
theorem dX7_counting_73 : decode cX7_counting 73 = .ok (.ifCond .eq 26, 3) := by decide +kernel
theorem dX7_counting_76 : decode cX7_counting 76 = .ok (.iload 4, 2) := by decide +kernel
theorem dX7_counting_78 : decode cX7_counting 78 = .ok (.iload 8, 2) := by decide +kernel
theorem dX7_counting_80 : decode cX7_counting 80 = .ok (.iload 8, 2) := by decide +kernel
theorem dX7_counting_82 : decode cX7_counting 82 = .ok (.iload_n 2, 1) := by decide +kernel
theorem dX7_counting_83 : decode cX7_counting 83 = .ok (.invokestatic 53, 3) := by decide +kernel
theorem dX7_counting_86 : decode cX7_counting 86 = .ok (.iadd, 1) := by decide +kernel
theorem dX7_counting_87 : decode cX7_counting 87 = .ok (.iconst 1, 1) := by decide +kernel
theorem dX7_counting_88 : decode cX7_counting 88 = .ok (.isub, 1) := by decide +kernel
theorem dX7_counting_89 : decode cX7_counting 89 = .ok (.invokestatic 26, 3) := by decide +kernel
theorem dX7_counting_92 : decode cX7_counting 92 = .ok (.ifCond .eq 7, 3) := by decide +kernel
theorem dX7_counting_95 : decode cX7_counting 95 = .ok (.iconst 1, 1) := by decide +kernel
theorem dX7_counting_96 : decode cX7_counting 96 = .ok (.goto 4, 3) := by decide +kernel
theorem dX7_counting_99 : decode cX7_counting 99 = .ok (.iconst 0, 1) := by decide +kernel
theorem dX7_counting_100 : decode cX7_counting 100 = .ok (.iadd, 1) := by decide +kernel
theorem dX7_counting_101 : decode cX7_counting 101 = .ok (.istore 5, 2) := by decide +kernel
theorem dX7_counting_103 : decode cX7_counting 103 = .ok (.iinc 6 1, 3) := by decide +kernel
theorem dX7_counting_106 : decode cX7_counting 106 = .ok (.goto (-100), 3) := by decide +kernel
theorem dX7_counting_109 : decode cX7_counting 109 = .ok (.iload 5, 2) := by decide +kernel
theorem dX7_counting_111 : decode cX7_counting 111 = .ok (.ireturn, 1) := by decide +kernel
theorem dX7_injure_0 : decode cX7_injure 0 = .ok (.aload_n 0, 1) := by decide +kernel
theorem dX7_injure_1 : decode cX7_injure 1 = .ok (.getfield 7, 3) := by decide +kernel
theorem dX7_injure_4 : decode cX7_injure 4 = .ok (.bipush 9, 2) := by decide +kernel
theorem dX7_injure_6 : decode cX7_injure 6 = .ok (.iaload, 1) := by decide +kernel
theorem dX7_injure_7 : decode cX7_injure 7 = .ok (.bipush 12, 2) := by decide +kernel
theorem dX7_injure_9 : decode cX7_injure 9 = .ok (.if_icmp .ne 49, 3) := by decide +kernel
theorem dX7_injure_12 : decode cX7_injure 12 = .ok (.sipush 202, 3) := by decide +kernel
theorem dX7_injure_15 : decode cX7_injure 15 = .ok (.istore 4, 2) := by decide +kernel
theorem dX7_injure_17 : decode cX7_injure 17 = .ok (.iload 4, 2) := by decide +kernel
theorem dX7_injure_19 : decode cX7_injure 19 = .ok (.sipush 246, 3) := by decide +kernel
theorem dX7_injure_22 : decode cX7_injure 22 = .ok (.if_icmp .ge 25, 3) := by decide +kernel
theorem dX7_injure_25 : decode cX7_injure 25 = .ok (.aload_n 0, 1) := by decide +kernel
theorem dX7_injure_26 : decode cX7_injure 26 = .ok (.getfield 7, 3) := by decide +kernel
theorem dX7_injure_29 : decode cX7_injure 29 = .ok (.iload 4, 2) := by decide +kernel
theorem dX7_injure_31 : decode cX7_injure 31 = .ok (.aload_n 0, 1) := by decide +kernel
theorem dX7_injure_32 : decode cX7_injure 32 = .ok (.getfield 7, 3) := by decide +kernel
theorem dX7_injure_35 : decode cX7_injure 35 = .ok (.iload 4, 2) := by decide +kernel
theorem dX7_injure_37 : decode cX7_injure 37 = .ok (.iconst 4, 1) := by decide +kernel
theorem dX7_injure_38 : decode cX7_injure 38 = .ok (.iadd, 1) := by decide +kernel
theorem dX7_injure_39 : decode cX7_injure 39 = .ok (.iaload, 1) := by decide +kernel
theorem dX7_injure_40 : decode cX7_injure 40 = .ok (.iastore, 1) := by decide +kernel
theorem dX7_injure_41 : decode cX7_injure 41 = .ok (.iinc 4 1, 3) := by decide +kernel
theorem dX7_injure_44 : decode cX7_injure 44 = .ok (.goto (-27), 3) := by decide +kernel
theorem dX7_injure_47 : decode cX7_injure 47 = .ok (.aload_n 0, 1) := by decide +kernel
theorem dX7_injure_48 : decode cX7_injure 48 = .ok (.getfield 7, 3) := by decide +kernel
theorem dX7_injure_51 : decode cX7_injure 51 = .ok (.bipush 9, 2) := by decide +kernel
theorem dX7_injure_53 : decode cX7_injure 53 = .ok (.dup2, 1) := by decide +kernel
theorem dX7_injure_54 : decode cX7_injure 54 = .ok (.iaload, 1) := by decide +kernel
theorem dX7_injure_55 : decode cX7_injure 55 = .ok (.iconst 1, 1) := by decide +kernel
theorem dX7_injure_56 : decode cX7_injure 56 = .ok (.isub, 1) := by decide +kernel
theorem dX7_injure_57 : decode cX7_injure 57 = .ok (.iastore, 1) := by decide +kernel
theorem dX7_injure_58 : decode cX7_injure 58 = .ok (.sipush 202, 3) := by decide +kernel
theorem dX7_injure_61 : decode cX7_injure 61 = .ok (.iconst 4, 1) := by decide +kernel
theorem dX7_injure_62 : decode cX7_injure 62 = .ok (.aload_n 0, 1) := by decide +kernel
theorem dX7_injure_63 : decode cX7_injure 63 = .ok (.getfield 7, 3) := by decide +kernel
theorem dX7_injure_66 : decode cX7_injure 66 = .ok (.bipush 9, 2) := by decide +kernel
theorem dX7_injure_68 : decode cX7_injure 68 = .ok (.iaload, 1) := by decide +kernel
theorem dX7_injure_69 : decode cX7_injure 69 = .ok (.imul, 1) := by decide +kernel
theorem dX7_injure_70 : decode cX7_injure 70 = .ok (.iadd, 1) := by decide +kernel
theorem dX7_injure_71 : decode cX7_injure 71 = .ok (.istore 4, 2) := by decide +kernel
theorem dX7_injure_73 : decode cX7_injure 73 = .ok (.aload_n 0, 1) := by decide +kernel
theorem dX7_injure_74 : decode cX7_injure 74 = .ok (.getfield 7, 3) := by decide +kernel
theorem dX7_injure_77 : decode cX7_injure 77 = .ok (.iload 4, 2) := by decide +kernel
theorem dX7_injure_79 : decode cX7_injure 79 = .ok (.iconst 0, 1) := by decide +kernel
theorem dX7_injure_80 : decode cX7_injure 80 = .ok (.iadd, 1) := by decide +kernel
theorem dX7_injure_81 : decode cX7_injure 81 = .ok (.iload_n 1, 1) := by decide +kernel
theorem dX7_injure_82 : decode cX7_injure 82 = .ok (.iastore, 1) := by decide +kernel
theorem dX7_injure_83 : decode cX7_injure 83 = .ok (.aload_n 0, 1) := by decide +kernel
theorem dX7_injure_84 : decode cX7_injure 84 = .ok (.getfield 7, 3) := by decide +kernel
theorem dX7_injure_87 : decode cX7_injure 87 = .ok (.iload 4, 2) := by decide +kernel
theorem dX7_injure_89 : decode cX7_injure 89 = .ok (.iconst 1, 1) := by decide +kernel
theorem dX7_injure_90 : decode cX7_injure 90 = .ok (.iadd, 1) := by decide +kernel
theorem dX7_injure_91 : decode cX7_injure 91 = .ok (.iload_n 2, 1) := by decide +kernel
theorem dX7_injure_92 : decode cX7_injure 92 = .ok (.iastore, 1) := by decide +kernel
theorem dX7_injure_93 : decode cX7_injure 93 = .ok (.aload_n 0, 1) := by decide +kernel
theorem dX7_injure_94 : decode cX7_injure 94 = .ok (.getfield 7, 3) := by decide +kernel
theorem dX7_injure_97 : decode cX7_injure 97 = .ok (.iload 4, 2) := by decide +kernel
theorem dX7_injure_99 : decode cX7_injure 99 = .ok (.iconst 2, 1) := by decide +kernel
theorem dX7_injure_100 : decode cX7_injure 100 = .ok (.iadd, 1) := by decide +kernel
theorem dX7_injure_101 : decode cX7_injure 101 = .ok (.aload_n 0, 1) := by decide +kernel
theorem dX7_injure_102 : decode cX7_injure 102 = .ok (.getfield 7, 3) := by decide +kernel
theorem dX7_injure_105 : decode cX7_injure 105 = .ok (.iconst 0, 1) := by decide +kernel
theorem dX7_injure_106 : decode cX7_injure 106 = .ok (.iaload, 1) := by decide +kernel
theorem dX7_injure_107 : decode cX7_injure 107 = .ok (.iastore, 1) := by decide +kernel
theorem dX7_injure_108 : decode cX7_injure 108 = .ok (.aload_n 0, 1) := by decide +kernel
theorem dX7_injure_109 : decode cX7_injure 109 = .ok (.getfield 7, 3) := by decide +kernel
theorem dX7_injure_112 : decode cX7_injure 112 = .ok (.iload 4, 2) := by decide +kernel
theorem dX7_injure_114 : decode cX7_injure 114 = .ok (.iconst 3, 1) := by decide +kernel
theorem dX7_injure_115 : decode cX7_injure 115 = .ok (.iadd, 1) := by decide +kernel
theorem dX7_injure_116 : decode cX7_injure 116 = .ok (.aload_n 0, 1) := by decide +kernel
theorem dX7_injure_117 : decode cX7_injure 117 = .ok (.getfield 7, 3) := by decide +kernel
theorem dX7_injure_120 : decode cX7_injure 120 = .ok (.iconst 0, 1) := by decide +kernel
theorem dX7_injure_121 : decode cX7_injure 121 = .ok (.iaload, 1) := by decide +kernel
theorem dX7_injure_122 : decode cX7_injure 122 = .ok (.iload_n 3, 1) := by decide +kernel
theorem dX7_injure_123 : decode cX7_injure 123 = .ok (.iadd, 1) := by decide +kernel
theorem dX7_injure_124 : decode cX7_injure 124 = .ok (.iconst 1, 1) := by decide +kernel
theorem dX7_injure_125 : decode cX7_injure 125 = .ok (.isub, 1) := by decide +kernel
theorem dX7_injure_126 : decode cX7_injure 126 = .ok (.iastore, 1) := by decide +kernel
theorem dX7_injure_127 : decode cX7_injure 127 = .ok (.aload_n 0, 1) := by decide +kernel
theorem dX7_injure_128 : decode cX7_injure 128 = .ok (.getfield 7, 3) := by decide +kernel
theorem dX7_injure_131 : decode cX7_injure 131 = .ok (.bipush 9, 2) := by decide +kernel
theorem dX7_injure_133 : decode cX7_injure 133 = .ok (.dup2, 1) := by decide +kernel
theorem dX7_injure_134 : decode cX7_injure 134 = .ok (.iaload, 1) := by decide +kernel
theorem dX7_injure_135 : decode cX7_injure 135 = .ok (.iconst 1, 1) := by decide +kernel
theorem dX7_injure_136 : decode cX7_injure 136 = .ok (.iadd, 1) := by decide +kernel
theorem dX7_injure_137 : decode cX7_injure 137 = .ok (.iastore, 1) := by decide +kernel
theorem dX7_injure_138 : decode cX7_injure 138 = .ok (.aload_n 0, 1) := by decide +kernel
theorem dX7_injure_139 : decode cX7_injure 139 = .ok (.getfield 7, 3) := by decide +kernel
theorem dX7_injure_142 : decode cX7_injure 142 = .ok (.bipush 6, 2) := by decide +kernel
theorem dX7_injure_144 : decode cX7_injure 144 = .ok (.dup2, 1) := by decide +kernel
theorem dX7_injure_145 : decode cX7_injure 145 = .ok (.iaload, 1) := by decide +kernel
theorem dX7_injure_146 : decode cX7_injure 146 = .ok (.iconst 1, 1) := by decide +kernel
theorem dX7_injure_147 : decode cX7_injure 147 = .ok (.iadd, 1) := by decide +kernel
theorem dX7_injure_148 : decode cX7_injure 148 = .ok (.iastore, 1) := by decide +kernel
theorem dX7_injure_149 : decode cX7_injure 149 = .ok (.return_, 1) := by decide +kernel
theorem dX7_doesRehearse_0 : decode cX7_doesRehearse 0 = .ok (.aload_n 0, 1) := by decide +kernel
theorem dX7_doesRehearse_1 : decode cX7_doesRehearse 1 = .ok (.getfield 7, 3) := by decide +kernel
theorem dX7_doesRehearse_4 : decode cX7_doesRehearse 4 = .ok (.bipush 7, 2) := by decide +kernel
theorem dX7_doesRehearse_6 : decode cX7_doesRehearse 6 = .ok (.dup2, 1) := by decide +kernel
theorem dX7_doesRehearse_7 : decode cX7_doesRehearse 7 = .ok (.iaload, 1) := by decide +kernel
theorem dX7_doesRehearse_8 : decode cX7_doesRehearse 8 = .ok (.iconst 1, 1) := by decide +kernel
theorem dX7_doesRehearse_9 : decode cX7_doesRehearse 9 = .ok (.iadd, 1) := by decide +kernel
theorem dX7_doesRehearse_10 : decode cX7_doesRehearse 10 = .ok (.iastore, 1) := by decide +kernel
theorem dX7_doesRehearse_11 : decode cX7_doesRehearse 11 = .ok (.aload_n 0, 1) := by decide +kernel
theorem dX7_doesRehearse_12 : decode cX7_doesRehearse 12 = .ok (.getfield 7, 3) := by decide +kernel
theorem dX7_doesRehearse_15 : decode cX7_doesRehearse 15 = .ok (.bipush 34, 2) := by decide +kernel
theorem dX7_doesRehearse_17 : decode cX7_doesRehearse 17 = .ok (.iload_n 1, 1) := by decide +kernel
theorem dX7_doesRehearse_18 : decode cX7_doesRehearse 18 = .ok (.iadd, 1) := by decide +kernel
theorem dX7_doesRehearse_19 : decode cX7_doesRehearse 19 = .ok (.dup2, 1) := by decide +kernel
theorem dX7_doesRehearse_20 : decode cX7_doesRehearse 20 = .ok (.iaload, 1) := by decide +kernel
theorem dX7_doesRehearse_21 : decode cX7_doesRehearse 21 = .ok (.iconst 1, 1) := by decide +kernel
theorem dX7_doesRehearse_22 : decode cX7_doesRehearse 22 = .ok (.iadd, 1) := by decide +kernel
theorem dX7_doesRehearse_23 : decode cX7_doesRehearse 23 = .ok (.iastore, 1) := by decide +kernel
theorem dX7_doesRehearse_24 : decode cX7_doesRehearse 24 = .ok (.aload_n 0, 1) := by decide +kernel
theorem dX7_doesRehearse_25 : decode cX7_doesRehearse 25 = .ok (.getfield 7, 3) := by decide +kernel
theorem dX7_doesRehearse_28 : decode cX7_doesRehearse 28 = .ok (.bipush 34, 2) := by decide +kernel
theorem dX7_doesRehearse_30 : decode cX7_doesRehearse 30 = .ok (.iload_n 1, 1) := by decide +kernel
theorem dX7_doesRehearse_31 : decode cX7_doesRehearse 31 = .ok (.iadd, 1) := by decide +kernel
theorem dX7_doesRehearse_32 : decode cX7_doesRehearse 32 = .ok (.iaload, 1) := by decide +kernel
theorem dX7_doesRehearse_33 : decode cX7_doesRehearse 33 = .ok (.iconst 3, 1) := by decide +kernel
theorem dX7_doesRehearse_34 : decode cX7_doesRehearse 34 = .ok (.if_icmp .le 17, 3) := by decide +kernel
theorem dX7_doesRehearse_37 : decode cX7_doesRehearse 37 = .ok (.aload_n 0, 1) := by decide +kernel
theorem dX7_doesRehearse_38 : decode cX7_doesRehearse 38 = .ok (.iload_n 1, 1) := by decide +kernel
theorem dX7_doesRehearse_39 : decode cX7_doesRehearse 39 = .ok (.iload_n 2, 1) := by decide +kernel
theorem dX7_doesRehearse_40 : decode cX7_doesRehearse 40 = .ok (.invokestatic 56, 3) := by decide +kernel
theorem dX7_doesRehearse_43 : decode cX7_doesRehearse 43 = .ok (.iconst 2, 1) := by decide +kernel
theorem dX7_doesRehearse_44 : decode cX7_doesRehearse 44 = .ok (.iload_n 3, 1) := by decide +kernel
theorem dX7_doesRehearse_45 : decode cX7_doesRehearse 45 = .ok (.imul, 1) := by decide +kernel
theorem dX7_doesRehearse_46 : decode cX7_doesRehearse 46 = .ok (.invokevirtual 59, 3) := by decide +kernel
theorem dX7_doesRehearse_49 : decode cX7_doesRehearse 49 = .ok (.iconst 0, 1) := by decide +kernel
theorem dX7_doesRehearse_50 : decode cX7_doesRehearse 50 = .ok (.ireturn, 1) := by decide +kernel
theorem dX7_doesRehearse_51 : decode cX7_doesRehearse 51 = .ok (.aload_n 0, 1) := by decide +kernel
theorem dX7_doesRehearse_52 : decode cX7_doesRehearse 52 = .ok (.getfield 7, 3) := by decide +kernel
theorem dX7_doesRehearse_55 : decode cX7_doesRehearse 55 = .ok (.bipush 8, 2) := by decide +kernel
theorem dX7_doesRehearse_57 : decode cX7_doesRehearse 57 = .ok (.iaload, 1) := by decide +kernel
theorem dX7_doesRehearse_58 : decode cX7_doesRehearse 58 = .ok (.bipush 40, 2) := by decide +kernel
theorem dX7_doesRehearse_60 : decode cX7_doesRehearse 60 = .ok (.if_icmp .ne 48, 3) := by decide +kernel
theorem dX7_doesRehearse_63 : decode cX7_doesRehearse 63 = .ok (.bipush 42, 2) := by decide +kernel
theorem dX7_doesRehearse_65 : decode cX7_doesRehearse 65 = .ok (.istore 4, 2) := by decide +kernel
theorem dX7_doesRehearse_67 : decode cX7_doesRehearse 67 = .ok (.iload 4, 2) := by decide +kernel
theorem dX7_doesRehearse_69 : decode cX7_doesRehearse 69 = .ok (.sipush 198, 3) := by decide +kernel
theorem dX7_doesRehearse_72 : decode cX7_doesRehearse 72 = .ok (.if_icmp .ge 25, 3) := by decide +kernel
theorem dX7_doesRehearse_75 : decode cX7_doesRehearse 75 = .ok (.aload_n 0, 1) := by decide +kernel
theorem dX7_doesRehearse_76 : decode cX7_doesRehearse 76 = .ok (.getfield 7, 3) := by decide +kernel
theorem dX7_doesRehearse_79 : decode cX7_doesRehearse 79 = .ok (.iload 4, 2) := by decide +kernel
theorem dX7_doesRehearse_81 : decode cX7_doesRehearse 81 = .ok (.aload_n 0, 1) := by decide +kernel
theorem dX7_doesRehearse_82 : decode cX7_doesRehearse 82 = .ok (.getfield 7, 3) := by decide +kernel
theorem dX7_doesRehearse_85 : decode cX7_doesRehearse 85 = .ok (.iload 4, 2) := by decide +kernel
theorem dX7_doesRehearse_87 : decode cX7_doesRehearse 87 = .ok (.iconst 4, 1) := by decide +kernel
theorem dX7_doesRehearse_88 : decode cX7_doesRehearse 88 = .ok (.iadd, 1) := by decide +kernel
theorem dX7_doesRehearse_89 : decode cX7_doesRehearse 89 = .ok (.iaload, 1) := by decide +kernel
theorem dX7_doesRehearse_90 : decode cX7_doesRehearse 90 = .ok (.iastore, 1) := by decide +kernel
theorem dX7_doesRehearse_91 : decode cX7_doesRehearse 91 = .ok (.iinc 4 1, 3) := by decide +kernel
theorem dX7_doesRehearse_94 : decode cX7_doesRehearse 94 = .ok (.goto (-27), 3) := by decide +kernel
theorem dX7_doesRehearse_97 : decode cX7_doesRehearse 97 = .ok (.aload_n 0, 1) := by decide +kernel
theorem dX7_doesRehearse_98 : decode cX7_doesRehearse 98 = .ok (.getfield 7, 3) := by decide +kernel
theorem dX7_doesRehearse_101 : decode cX7_doesRehearse 101 = .ok (.bipush 8, 2) := by decide +kernel
theorem dX7_doesRehearse_103 : decode cX7_doesRehearse 103 = .ok (.dup2, 1) := by decide +kernel
theorem dX7_doesRehearse_104 : decode cX7_doesRehearse 104 = .ok (.iaload, 1) := by decide +kernel
theorem dX7_doesRehearse_105 : decode cX7_doesRehearse 105 = .ok (.iconst 1, 1) := by decide +kernel
theorem dX7_doesRehearse_106 : decode cX7_doesRehearse 106 = .ok (.isub, 1) := by decide +kernel
theorem dX7_doesRehearse_107 : decode cX7_doesRehearse 107 = .ok (.iastore, 1) := by decide +kernel
theorem dX7_doesRehearse_108 : decode cX7_doesRehearse 108 = .ok (.bipush 42, 2) := by decide +kernel
theorem dX7_doesRehearse_110 : decode cX7_doesRehearse 110 = .ok (.iconst 4, 1) := by decide +kernel
theorem dX7_doesRehearse_111 : decode cX7_doesRehearse 111 = .ok (.aload_n 0, 1) := by decide +kernel
theorem dX7_doesRehearse_112 : decode cX7_doesRehearse 112 = .ok (.getfield 7, 3) := by decide +kernel
theorem dX7_doesRehearse_115 : decode cX7_doesRehearse 115 = .ok (.bipush 8, 2) := by decide +kernel
theorem dX7_doesRehearse_117 : decode cX7_doesRehearse 117 = .ok (.iaload, 1) := by decide +kernel
theorem dX7_doesRehearse_118 : decode cX7_doesRehearse 118 = .ok (.imul, 1) := by decide +kernel
theorem dX7_doesRehearse_119 : decode cX7_doesRehearse 119 = .ok (.iadd, 1) := by decide +kernel
theorem dX7_doesRehearse_120 : decode cX7_doesRehearse 120 = .ok (.istore 4, 2) := by decide +kernel
theorem dX7_doesRehearse_122 : decode cX7_doesRehearse 122 = .ok (.aload_n 0, 1) := by decide +kernel
theorem dX7_doesRehearse_123 : decode cX7_doesRehearse 123 = .ok (.getfield 7, 3) := by decide +kernel
theorem dX7_doesRehearse_126 : decode cX7_doesRehearse 126 = .ok (.iload 4, 2) := by decide +kernel
theorem dX7_doesRehearse_128 : decode cX7_doesRehearse 128 = .ok (.iconst 0, 1) := by decide +kernel
theorem dX7_doesRehearse_129 : decode cX7_doesRehearse 129 = .ok (.iadd, 1) := by decide +kernel
theorem dX7_doesRehearse_130 : decode cX7_doesRehearse 130 = .ok (.iload_n 1, 1) := by decide +kernel
theorem dX7_doesRehearse_131 : decode cX7_doesRehearse 131 = .ok (.iastore, 1) := by decide +kernel
theorem dX7_doesRehearse_132 : decode cX7_doesRehearse 132 = .ok (.aload_n 0, 1) := by decide +kernel
theorem dX7_doesRehearse_133 : decode cX7_doesRehearse 133 = .ok (.getfield 7, 3) := by decide +kernel
theorem dX7_doesRehearse_136 : decode cX7_doesRehearse 136 = .ok (.iload 4, 2) := by decide +kernel
theorem dX7_doesRehearse_138 : decode cX7_doesRehearse 138 = .ok (.iconst 1, 1) := by decide +kernel
theorem dX7_doesRehearse_139 : decode cX7_doesRehearse 139 = .ok (.iadd, 1) := by decide +kernel
theorem dX7_doesRehearse_140 : decode cX7_doesRehearse 140 = .ok (.iload_n 2, 1) := by decide +kernel
theorem dX7_doesRehearse_141 : decode cX7_doesRehearse 141 = .ok (.iastore, 1) := by decide +kernel
theorem dX7_doesRehearse_142 : decode cX7_doesRehearse 142 = .ok (.aload_n 0, 1) := by decide +kernel
theorem dX7_doesRehearse_143 : decode cX7_doesRehearse 143 = .ok (.getfield 7, 3) := by decide +kernel
theorem dX7_doesRehearse_146 : decode cX7_doesRehearse 146 = .ok (.iload 4, 2) := by decide +kernel
theorem dX7_doesRehearse_148 : decode cX7_doesRehearse 148 = .ok (.iconst 2, 1) := by decide +kernel
theorem dX7_doesRehearse_149 : decode cX7_doesRehearse 149 = .ok (.iadd, 1) := by decide +kernel
theorem dX7_doesRehearse_150 : decode cX7_doesRehearse 150 = .ok (.iload_n 3, 1) := by decide +kernel
theorem dX7_doesRehearse_151 : decode cX7_doesRehearse 151 = .ok (.iastore, 1) := by decide +kernel
theorem dX7_doesRehearse_152 : decode cX7_doesRehearse 152 = .ok (.aload_n 0, 1) := by decide +kernel
theorem dX7_doesRehearse_153 : decode cX7_doesRehearse 153 = .ok (.getfield 7, 3) := by decide +kernel
theorem dX7_doesRehearse_156 : decode cX7_doesRehearse 156 = .ok (.iload 4, 2) := by decide +kernel
theorem dX7_doesRehearse_158 : decode cX7_doesRehearse 158 = .ok (.iconst 3, 1) := by decide +kernel
theorem dX7_doesRehearse_159 : decode cX7_doesRehearse 159 = .ok (.iadd, 1) := by decide +kernel
theorem dX7_doesRehearse_160 : decode cX7_doesRehearse 160 = .ok (.aload_n 0, 1) := by decide +kernel
theorem dX7_doesRehearse_161 : decode cX7_doesRehearse 161 = .ok (.getfield 7, 3) := by decide +kernel
theorem dX7_doesRehearse_164 : decode cX7_doesRehearse 164 = .ok (.iconst 0, 1) := by decide +kernel
theorem dX7_doesRehearse_165 : decode cX7_doesRehearse 165 = .ok (.iaload, 1) := by decide +kernel
theorem dX7_doesRehearse_166 : decode cX7_doesRehearse 166 = .ok (.iastore, 1) := by decide +kernel
theorem dX7_doesRehearse_167 : decode cX7_doesRehearse 167 = .ok (.aload_n 0, 1) := by decide +kernel
theorem dX7_doesRehearse_168 : decode cX7_doesRehearse 168 = .ok (.getfield 7, 3) := by decide +kernel
theorem dX7_doesRehearse_171 : decode cX7_doesRehearse 171 = .ok (.bipush 8, 2) := by decide +kernel
theorem dX7_doesRehearse_173 : decode cX7_doesRehearse 173 = .ok (.dup2, 1) := by decide +kernel
theorem dX7_doesRehearse_174 : decode cX7_doesRehearse 174 = .ok (.iaload, 1) := by decide +kernel
theorem dX7_doesRehearse_175 : decode cX7_doesRehearse 175 = .ok (.iconst 1, 1) := by decide +kernel
theorem dX7_doesRehearse_176 : decode cX7_doesRehearse 176 = .ok (.iadd, 1) := by decide +kernel
theorem dX7_doesRehearse_177 : decode cX7_doesRehearse 177 = .ok (.iastore, 1) := by decide +kernel
theorem dX7_doesRehearse_178 : decode cX7_doesRehearse 178 = .ok (.iconst 1, 1) := by decide +kernel
theorem dX7_doesRehearse_179 : decode cX7_doesRehearse 179 = .ok (.ireturn, 1) := by decide +kernel
theorem dX7_doesPass_0 : decode cX7_doesPass 0 = .ok (.aload_n 0, 1) := by decide +kernel
theorem dX7_doesPass_1 : decode cX7_doesPass 1 = .ok (.getfield 7, 3) := by decide +kernel
theorem dX7_doesPass_4 : decode cX7_doesPass 4 = .ok (.iconst 0, 1) := by decide +kernel
theorem dX7_doesPass_5 : decode cX7_doesPass 5 = .ok (.dup2, 1) := by decide +kernel
theorem dX7_doesPass_6 : decode cX7_doesPass 6 = .ok (.iaload, 1) := by decide +kernel
theorem dX7_doesPass_7 : decode cX7_doesPass 7 = .ok (.iload_n 1, 1) := by decide +kernel
theorem dX7_doesPass_8 : decode cX7_doesPass 8 = .ok (.iadd, 1) := by decide +kernel
theorem dX7_doesPass_9 : decode cX7_doesPass 9 = .ok (.iastore, 1) := by decide +kernel
theorem dX7_doesPass_10 : decode cX7_doesPass 10 = .ok (.iconst 0, 1) := by decide +kernel
theorem dX7_doesPass_11 : decode cX7_doesPass 11 = .ok (.istore_n 2, 1) := by decide +kernel
theorem dX7_doesPass_12 : decode cX7_doesPass 12 = .ok (.iload_n 2, 1) := by decide +kernel
theorem dX7_doesPass_13 : decode cX7_doesPass 13 = .ok (.bipush 8, 2) := by decide +kernel
theorem dX7_doesPass_15 : decode cX7_doesPass 15 = .ok (.if_icmp .ge 19, 3) := by decide +kernel
theorem dX7_doesPass_18 : decode cX7_doesPass 18 = .ok (.aload_n 0, 1) := by decide +kernel
theorem dX7_doesPass_19 : decode cX7_doesPass 19 = .ok (.getfield 7, 3) := by decide +kernel
theorem dX7_doesPass_22 : decode cX7_doesPass 22 = .ok (.bipush 34, 2) := by decide +kernel
theorem dX7_doesPass_24 : decode cX7_doesPass 24 = .ok (.iload_n 2, 1) := by decide +kernel
theorem dX7_doesPass_25 : decode cX7_doesPass 25 = .ok (.iadd, 1) := by decide +kernel
theorem dX7_doesPass_26 : decode cX7_doesPass 26 = .ok (.iconst 0, 1) := by decide +kernel
theorem dX7_doesPass_27 : decode cX7_doesPass 27 = .ok (.iastore, 1) := by decide +kernel
theorem dX7_doesPass_28 : decode cX7_doesPass 28 = .ok (.iinc 2 1, 3) := by decide +kernel
theorem dX7_doesPass_31 : decode cX7_doesPass 31 = .ok (.goto (-19), 3) := by decide +kernel
theorem dX7_doesPass_34 : decode cX7_doesPass 34 = .ok (.aload_n 0, 1) := by decide +kernel
theorem dX7_doesPass_35 : decode cX7_doesPass 35 = .ok (.getfield 7, 3) := by decide +kernel
theorem dX7_doesPass_38 : decode cX7_doesPass 38 = .ok (.iconst 0, 1) := by decide +kernel
theorem dX7_doesPass_39 : decode cX7_doesPass 39 = .ok (.iaload, 1) := by decide +kernel
theorem dX7_doesPass_40 : decode cX7_doesPass 40 = .ok (.ireturn, 1) := by decide +kernel
theorem dX7_ofScene_0 : decode cX7_ofScene 0 = .ok (.aload_n 0, 1) := by decide +kernel
theorem dX7_ofScene_1 : decode cX7_ofScene 1 = .ok (.getfield 7, 3) := by decide +kernel
theorem dX7_ofScene_4 : decode cX7_ofScene 4 = .ok (.sipush 250, 3) := by decide +kernel
theorem dX7_ofScene_7 : decode cX7_ofScene 7 = .ok (.iconst 5, 1) := by decide +kernel
theorem dX7_ofScene_8 : decode cX7_ofScene 8 = .ok (.iload_n 1, 1) := by decide +kernel
theorem dX7_ofScene_9 : decode cX7_ofScene 9 = .ok (.imul, 1) := by decide +kernel
theorem dX7_ofScene_10 : decode cX7_ofScene 10 = .ok (.iadd, 1) := by decide +kernel
theorem dX7_ofScene_11 : decode cX7_ofScene 11 = .ok (.iload_n 2, 1) := by decide +kernel
theorem dX7_ofScene_12 : decode cX7_ofScene 12 = .ok (.iadd, 1) := by decide +kernel
theorem dX7_ofScene_13 : decode cX7_ofScene 13 = .ok (.iaload, 1) := by decide +kernel
theorem dX7_ofScene_14 : decode cX7_ofScene 14 = .ok (.ireturn, 1) := by decide +kernel
theorem dX7_distance_0 : decode cX7_distance 0 = .ok (.aload_n 0, 1) := by decide +kernel
theorem dX7_distance_1 : decode cX7_distance 1 = .ok (.getfield 7, 3) := by decide +kernel
theorem dX7_distance_4 : decode cX7_distance 4 = .ok (.bipush 10, 2) := by decide +kernel
theorem dX7_distance_6 : decode cX7_distance 6 = .ok (.iload_n 1, 1) := by decide +kernel
theorem dX7_distance_7 : decode cX7_distance 7 = .ok (.iadd, 1) := by decide +kernel
theorem dX7_distance_8 : decode cX7_distance 8 = .ok (.iaload, 1) := by decide +kernel
theorem dX7_distance_9 : decode cX7_distance 9 = .ok (.aload_n 0, 1) := by decide +kernel
theorem dX7_distance_10 : decode cX7_distance 10 = .ok (.getfield 7, 3) := by decide +kernel
theorem dX7_distance_13 : decode cX7_distance 13 = .ok (.bipush 10, 2) := by decide +kernel
theorem dX7_distance_15 : decode cX7_distance 15 = .ok (.iload_n 2, 1) := by decide +kernel
theorem dX7_distance_16 : decode cX7_distance 16 = .ok (.iadd, 1) := by decide +kernel
theorem dX7_distance_17 : decode cX7_distance 17 = .ok (.iaload, 1) := by decide +kernel
theorem dX7_distance_18 : decode cX7_distance 18 = .ok (.isub, 1) := by decide +kernel
theorem dX7_distance_19 : decode cX7_distance 19 = .ok (.istore_n 3, 1) := by decide +kernel
theorem dX7_distance_20 : decode cX7_distance 20 = .ok (.iload_n 3, 1) := by decide +kernel
theorem dX7_distance_21 : decode cX7_distance 21 = .ok (.ifCond .ge 8, 3) := by decide +kernel
theorem dX7_distance_24 : decode cX7_distance 24 = .ok (.iload_n 3, 1) := by decide +kernel
theorem dX7_distance_25 : decode cX7_distance 25 = .ok (.ineg, 1) := by decide +kernel
theorem dX7_distance_26 : decode cX7_distance 26 = .ok (.goto 4, 3) := by decide +kernel
theorem dX7_distance_29 : decode cX7_distance 29 = .ok (.iload_n 3, 1) := by decide +kernel
theorem dX7_distance_30 : decode cX7_distance 30 = .ok (.ireturn, 1) := by decide +kernel
theorem dX7_insuredStep_0 : decode cX7_insuredStep 0 = .ok (.iload_n 1, 1) := by decide +kernel
theorem dX7_insuredStep_1 : decode cX7_insuredStep 1 = .ok (.aload_n 0, 1) := by decide +kernel
theorem dX7_insuredStep_2 : decode cX7_insuredStep 2 = .ok (.getfield 7, 3) := by decide +kernel
theorem dX7_insuredStep_5 : decode cX7_insuredStep 5 = .ok (.iconst 3, 1) := by decide +kernel
theorem dX7_insuredStep_6 : decode cX7_insuredStep 6 = .ok (.iaload, 1) := by decide +kernel
theorem dX7_insuredStep_7 : decode cX7_insuredStep 7 = .ok (.if_icmp .gt 12, 3) := by decide +kernel
theorem dX7_insuredStep_10 : decode cX7_insuredStep 10 = .ok (.aload_n 0, 1) := by decide +kernel
theorem dX7_insuredStep_11 : decode cX7_insuredStep 11 = .ok (.getfield 7, 3) := by decide +kernel
theorem dX7_insuredStep_14 : decode cX7_insuredStep 14 = .ok (.iconst 2, 1) := by decide +kernel
theorem dX7_insuredStep_15 : decode cX7_insuredStep 15 = .ok (.iaload, 1) := by decide +kernel
theorem dX7_insuredStep_16 : decode cX7_insuredStep 16 = .ok (.goto 4, 3) := by decide +kernel
theorem dX7_insuredStep_19 : decode cX7_insuredStep 19 = .ok (.iconst 0, 1) := by decide +kernel
theorem dX7_insuredStep_20 : decode cX7_insuredStep 20 = .ok (.ireturn, 1) := by decide +kernel
theorem dX7_hasRested_0 : decode cX7_hasRested 0 = .ok (.aload_n 0, 1) := by decide +kernel
theorem dX7_hasRested_1 : decode cX7_hasRested 1 = .ok (.getfield 7, 3) := by decide +kernel
theorem dX7_hasRested_4 : decode cX7_hasRested 4 = .ok (.bipush 18, 2) := by decide +kernel
theorem dX7_hasRested_6 : decode cX7_hasRested 6 = .ok (.iload_n 1, 1) := by decide +kernel
theorem dX7_hasRested_7 : decode cX7_hasRested 7 = .ok (.iadd, 1) := by decide +kernel
theorem dX7_hasRested_8 : decode cX7_hasRested 8 = .ok (.iaload, 1) := by decide +kernel
theorem dX7_hasRested_9 : decode cX7_hasRested 9 = .ok (.istore_n 3, 1) := by decide +kernel
theorem dX7_hasRested_10 : decode cX7_hasRested 10 = .ok (.iload_n 3, 1) := by decide +kernel
theorem dX7_hasRested_11 : decode cX7_hasRested 11 = .ok (.iconst (-1), 1) := by decide +kernel
theorem dX7_hasRested_12 : decode cX7_hasRested 12 = .ok (.if_icmp .eq 15, 3) := by decide +kernel
theorem dX7_hasRested_15 : decode cX7_hasRested 15 = .ok (.iload_n 3, 1) := by decide +kernel
theorem dX7_hasRested_16 : decode cX7_hasRested 16 = .ok (.iload_n 2, 1) := by decide +kernel
theorem dX7_hasRested_17 : decode cX7_hasRested 17 = .ok (.if_icmp .eq 14, 3) := by decide +kernel
theorem dX7_hasRested_20 : decode cX7_hasRested 20 = .ok (.iload_n 3, 1) := by decide +kernel
theorem dX7_hasRested_21 : decode cX7_hasRested 21 = .ok (.iload_n 2, 1) := by decide +kernel
theorem dX7_hasRested_22 : decode cX7_hasRested 22 = .ok (.iconst 1, 1) := by decide +kernel
theorem dX7_hasRested_23 : decode cX7_hasRested 23 = .ok (.isub, 1) := by decide +kernel
theorem dX7_hasRested_24 : decode cX7_hasRested 24 = .ok (.if_icmp .eq 7, 3) := by decide +kernel
theorem dX7_hasRested_27 : decode cX7_hasRested 27 = .ok (.iconst 1, 1) := by decide +kernel
theorem dX7_hasRested_28 : decode cX7_hasRested 28 = .ok (.goto 4, 3) := by decide +kernel
theorem dX7_hasRested_31 : decode cX7_hasRested 31 = .ok (.iconst 0, 1) := by decide +kernel
theorem dX7_hasRested_32 : decode cX7_hasRested 32 = .ok (.ireturn, 1) := by decide +kernel
theorem dX7_lacks_0 : decode cX7_lacks 0 = .ok (.aload_n 0, 1) := by decide +kernel
theorem dX7_lacks_1 : decode cX7_lacks 1 = .ok (.iload_n 1, 1) := by decide +kernel
theorem dX7_lacks_2 : decode cX7_lacks 2 = .ok (.iconst 0, 1) := by decide +kernel
theorem dX7_lacks_3 : decode cX7_lacks 3 = .ok (.invokevirtual 63, 3) := by decide +kernel
theorem dX7_lacks_6 : decode cX7_lacks 6 = .ok (.istore 4, 2) := by decide +kernel
theorem dX7_lacks_8 : decode cX7_lacks 8 = .ok (.aload_n 0, 1) := by decide +kernel
theorem dX7_lacks_9 : decode cX7_lacks 9 = .ok (.iload_n 1, 1) := by decide +kernel
theorem dX7_lacks_10 : decode cX7_lacks 10 = .ok (.iconst 1, 1) := by decide +kernel
theorem dX7_lacks_11 : decode cX7_lacks 11 = .ok (.invokevirtual 63, 3) := by decide +kernel
theorem dX7_lacks_14 : decode cX7_lacks 14 = .ok (.istore 5, 2) := by decide +kernel
theorem dX7_lacks_16 : decode cX7_lacks 16 = .ok (.iload 4, 2) := by decide +kernel
theorem dX7_lacks_18 : decode cX7_lacks 18 = .ok (.iload 5, 2) := by decide +kernel
theorem dX7_lacks_20 : decode cX7_lacks 20 = .ok (.invokestatic 66, 3) := by decide +kernel
theorem dX7_lacks_23 : decode cX7_lacks 23 = .ok (.aload_n 0, 1) := by decide +kernel
theorem dX7_lacks_24 : decode cX7_lacks 24 = .ok (.iload_n 2, 1) := by decide +kernel
theorem dX7_lacks_25 : decode cX7_lacks 25 = .ok (.iload 4, 2) := by decide +kernel
theorem dX7_lacks_27 : decode cX7_lacks 27 = .ok (.iload 5, 2) := by decide +kernel
theorem dX7_lacks_29 : decode cX7_lacks 29 = .ok (.iload_n 3, 1) := by decide +kernel
theorem dX7_lacks_30 : decode cX7_lacks 30 = .ok (.invokevirtual 69, 3) := by decide +kernel
theorem dX7_lacks_33 : decode cX7_lacks 33 = .ok (.isub, 1) := by decide +kernel
theorem dX7_lacks_34 : decode cX7_lacks 34 = .ok (.istore 6, 2) := by decide +kernel
theorem dX7_lacks_36 : decode cX7_lacks 36 = .ok (.iload 6, 2) := by decide +kernel
theorem dX7_lacks_38 : decode cX7_lacks 38 = .ok (.ifCond .le 8, 3) := by decide +kernel
theorem dX7_lacks_41 : decode cX7_lacks 41 = .ok (.iload 6, 2) := by decide +kernel
theorem dX7_lacks_43 : decode cX7_lacks 43 = .ok (.goto 4, 3) := by decide +kernel
theorem dX7_lacks_46 : decode cX7_lacks 46 = .ok (.iconst 0, 1) := by decide +kernel
theorem dX7_lacks_47 : decode cX7_lacks 47 = .ok (.ireturn, 1) := by decide +kernel
theorem dX7_reason_0 : decode cX7_reason 0 = .ok (.aload_n 0, 1) := by decide +kernel
theorem dX7_reason_1 : decode cX7_reason 1 = .ok (.iload_n 1, 1) := by decide +kernel
theorem dX7_reason_2 : decode cX7_reason 2 = .ok (.iconst 3, 1) := by decide +kernel
theorem dX7_reason_3 : decode cX7_reason 3 = .ok (.invokevirtual 63, 3) := by decide +kernel
theorem dX7_reason_6 : decode cX7_reason 6 = .ok (.iconst (-1), 1) := by decide +kernel
theorem dX7_reason_7 : decode cX7_reason 7 = .ok (.if_icmp .eq 5, 3) := by decide +kernel
theorem dX7_reason_10 : decode cX7_reason 10 = .ok (.iconst 1, 1) := by decide +kernel
theorem dX7_reason_11 : decode cX7_reason 11 = .ok (.ireturn, 1) := by decide +kernel
theorem dX7_reason_12 : decode cX7_reason 12 = .ok (.aload_n 0, 1) := by decide +kernel
theorem dX7_reason_13 : decode cX7_reason 13 = .ok (.iload_n 2, 1) := by decide +kernel
theorem dX7_reason_14 : decode cX7_reason 14 = .ok (.aload_n 0, 1) := by decide +kernel
theorem dX7_reason_15 : decode cX7_reason 15 = .ok (.iload_n 1, 1) := by decide +kernel
theorem dX7_reason_16 : decode cX7_reason 16 = .ok (.iconst 2, 1) := by decide +kernel
theorem dX7_reason_17 : decode cX7_reason 17 = .ok (.invokevirtual 63, 3) := by decide +kernel
theorem dX7_reason_20 : decode cX7_reason 20 = .ok (.invokevirtual 73, 3) := by decide +kernel
theorem dX7_reason_23 : decode cX7_reason 23 = .ok (.iconst 5, 1) := by decide +kernel
theorem dX7_reason_24 : decode cX7_reason 24 = .ok (.if_icmp .le 5, 3) := by decide +kernel
theorem dX7_reason_27 : decode cX7_reason 27 = .ok (.iconst 2, 1) := by decide +kernel
theorem dX7_reason_28 : decode cX7_reason 28 = .ok (.ireturn, 1) := by decide +kernel
theorem dX7_reason_29 : decode cX7_reason 29 = .ok (.aload_n 0, 1) := by decide +kernel
theorem dX7_reason_30 : decode cX7_reason 30 = .ok (.iload_n 3, 1) := by decide +kernel
theorem dX7_reason_31 : decode cX7_reason 31 = .ok (.invokevirtual 76, 3) := by decide +kernel
theorem dX7_reason_34 : decode cX7_reason 34 = .ok (.aload_n 0, 1) := by decide +kernel
theorem dX7_reason_35 : decode cX7_reason 35 = .ok (.iload_n 1, 1) := by decide +kernel
theorem dX7_reason_36 : decode cX7_reason 36 = .ok (.iconst 1, 1) := by decide +kernel
theorem dX7_reason_37 : decode cX7_reason 37 = .ok (.invokevirtual 63, 3) := by decide +kernel
theorem dX7_reason_40 : decode cX7_reason 40 = .ok (.if_icmp .ge 5, 3) := by decide +kernel
theorem dX7_reason_43 : decode cX7_reason 43 = .ok (.iconst 3, 1) := by decide +kernel
theorem dX7_reason_44 : decode cX7_reason 44 = .ok (.ireturn, 1) := by decide +kernel
theorem dX7_reason_45 : decode cX7_reason 45 = .ok (.aload_n 0, 1) := by decide +kernel
theorem dX7_reason_46 : decode cX7_reason 46 = .ok (.iload_n 2, 1) := by decide +kernel
theorem dX7_reason_47 : decode cX7_reason 47 = .ok (.aload_n 0, 1) := by decide +kernel
theorem dX7_reason_48 : decode cX7_reason 48 = .ok (.iload_n 1, 1) := by decide +kernel
theorem dX7_reason_49 : decode cX7_reason 49 = .ok (.iconst 0, 1) := by decide +kernel
theorem dX7_reason_50 : decode cX7_reason 50 = .ok (.invokevirtual 63, 3) := by decide +kernel
theorem dX7_reason_53 : decode cX7_reason 53 = .ok (.iload_n 3, 1) := by decide +kernel
theorem dX7_reason_54 : decode cX7_reason 54 = .ok (.invokevirtual 47, 3) := by decide +kernel
theorem dX7_reason_57 : decode cX7_reason 57 = .ok (.ifCond .eq 5, 3) := by decide +kernel
theorem dX7_reason_60 : decode cX7_reason 60 = .ok (.iconst 4, 1) := by decide +kernel
theorem dX7_reason_61 : decode cX7_reason 61 = .ok (.ireturn, 1) := by decide +kernel
theorem dX7_reason_62 : decode cX7_reason 62 = .ok (.aload_n 0, 1) := by decide +kernel
theorem dX7_reason_63 : decode cX7_reason 63 = .ok (.iload_n 2, 1) := by decide +kernel
theorem dX7_reason_64 : decode cX7_reason 64 = .ok (.iload_n 3, 1) := by decide +kernel
theorem dX7_reason_65 : decode cX7_reason 65 = .ok (.invokevirtual 79, 3) := by decide +kernel
theorem dX7_reason_68 : decode cX7_reason 68 = .ok (.ifCond .ne 5, 3) := by decide +kernel
theorem dX7_reason_71 : decode cX7_reason 71 = .ok (.iconst 5, 1) := by decide +kernel
theorem dX7_reason_72 : decode cX7_reason 72 = .ok (.ireturn, 1) := by decide +kernel
theorem dX7_reason_73 : decode cX7_reason 73 = .ok (.aload_n 0, 1) := by decide +kernel
theorem dX7_reason_74 : decode cX7_reason 74 = .ok (.iload_n 1, 1) := by decide +kernel
theorem dX7_reason_75 : decode cX7_reason 75 = .ok (.iload_n 2, 1) := by decide +kernel
theorem dX7_reason_76 : decode cX7_reason 76 = .ok (.iload_n 3, 1) := by decide +kernel
theorem dX7_reason_77 : decode cX7_reason 77 = .ok (.invokevirtual 83, 3) := by decide +kernel
theorem dX7_reason_80 : decode cX7_reason 80 = .ok (.ifCond .le 8, 3) := by decide +kernel
theorem dX7_reason_83 : decode cX7_reason 83 = .ok (.bipush 6, 2) := by decide +kernel
theorem dX7_reason_85 : decode cX7_reason 85 = .ok (.goto 4, 3) := by decide +kernel
theorem dX7_reason_88 : decode cX7_reason 88 = .ok (.iconst 0, 1) := by decide +kernel
theorem dX7_reason_89 : decode cX7_reason 89 = .ok (.ireturn, 1) := by decide +kernel
theorem dX7_cleared_0 : decode cX7_cleared 0 = .ok (.iconst 0, 1) := by decide +kernel
theorem dX7_cleared_1 : decode cX7_cleared 1 = .ok (.istore_n 2, 1) := by decide +kernel
theorem dX7_cleared_2 : decode cX7_cleared 2 = .ok (.iconst 0, 1) := by decide +kernel
theorem dX7_cleared_3 : decode cX7_cleared 3 = .ok (.istore_n 3, 1) := by decide +kernel
theorem dX7_cleared_4 : decode cX7_cleared 4 = .ok (.iload_n 3, 1) := by decide +kernel
theorem dX7_cleared_5 : decode cX7_cleared 5 = .ok (.bipush 8, 2) := by decide +kernel
theorem dX7_cleared_7 : decode cX7_cleared 7 = .ok (.if_icmp .ge 34, 3) := by decide +kernel
theorem dX7_cleared_10 : decode cX7_cleared 10 = .ok (.iload_n 2, 1) := by decide +kernel
theorem dX7_cleared_11 : decode cX7_cleared 11 = .ok (.aload_n 0, 1) := by decide +kernel
theorem dX7_cleared_12 : decode cX7_cleared 12 = .ok (.iload_n 1, 1) := by decide +kernel
theorem dX7_cleared_13 : decode cX7_cleared 13 = .ok (.iload_n 3, 1) := by decide +kernel
theorem dX7_cleared_14 : decode cX7_cleared 14 = .ok (.aload_n 0, 1) := by decide +kernel
theorem dX7_cleared_15 : decode cX7_cleared 15 = .ok (.getfield 7, 3) := by decide +kernel
theorem dX7_cleared_18 : decode cX7_cleared 18 = .ok (.iconst 0, 1) := by decide +kernel
theorem dX7_cleared_19 : decode cX7_cleared 19 = .ok (.iaload, 1) := by decide +kernel
theorem dX7_cleared_20 : decode cX7_cleared 20 = .ok (.invokevirtual 87, 3) := by decide +kernel
theorem dX7_cleared_23 : decode cX7_cleared 23 = .ok (.ifCond .ne 9, 3) := by decide +kernel
theorem dX7_cleared_26 : decode cX7_cleared 26 = .ok (.iconst 1, 1) := by decide +kernel
theorem dX7_cleared_27 : decode cX7_cleared 27 = .ok (.iload_n 3, 1) := by decide +kernel
theorem dX7_cleared_28 : decode cX7_cleared 28 = .ok (.ishl, 1) := by decide +kernel
theorem dX7_cleared_29 : decode cX7_cleared 29 = .ok (.goto 4, 3) := by decide +kernel
theorem dX7_cleared_32 : decode cX7_cleared 32 = .ok (.iconst 0, 1) := by decide +kernel
theorem dX7_cleared_33 : decode cX7_cleared 33 = .ok (.ior, 1) := by decide +kernel
theorem dX7_cleared_34 : decode cX7_cleared 34 = .ok (.istore_n 2, 1) := by decide +kernel
theorem dX7_cleared_35 : decode cX7_cleared 35 = .ok (.iinc 3 1, 3) := by decide +kernel
theorem dX7_cleared_38 : decode cX7_cleared 38 = .ok (.goto (-34), 3) := by decide +kernel
theorem dX7_cleared_41 : decode cX7_cleared 41 = .ok (.iload_n 2, 1) := by decide +kernel
theorem dX7_cleared_42 : decode cX7_cleared 42 = .ok (.ireturn, 1) := by decide +kernel
theorem dX7_doesShoot_0 : decode cX7_doesShoot 0 = .ok (.iload_n 2, 1) := by decide +kernel
theorem dX7_doesShoot_1 : decode cX7_doesShoot 1 = .ok (.aload_n 0, 1) := by decide +kernel
theorem dX7_doesShoot_2 : decode cX7_doesShoot 2 = .ok (.iload_n 1, 1) := by decide +kernel
theorem dX7_doesShoot_3 : decode cX7_doesShoot 3 = .ok (.iconst 2, 1) := by decide +kernel
theorem dX7_doesShoot_4 : decode cX7_doesShoot 4 = .ok (.invokevirtual 63, 3) := by decide +kernel
theorem dX7_doesShoot_7 : decode cX7_doesShoot 7 = .ok (.if_icmp .ne 7, 3) := by decide +kernel
theorem dX7_doesShoot_10 : decode cX7_doesShoot 10 = .ok (.iconst 0, 1) := by decide +kernel
theorem dX7_doesShoot_11 : decode cX7_doesShoot 11 = .ok (.goto 4, 3) := by decide +kernel
theorem dX7_doesShoot_14 : decode cX7_doesShoot 14 = .ok (.iconst 1, 1) := by decide +kernel
theorem dX7_doesShoot_15 : decode cX7_doesShoot 15 = .ok (.istore_n 3, 1) := by decide +kernel
theorem dX7_doesShoot_16 : decode cX7_doesShoot 16 = .ok (.aload_n 0, 1) := by decide +kernel
theorem dX7_doesShoot_17 : decode cX7_doesShoot 17 = .ok (.getfield 7, 3) := by decide +kernel
theorem dX7_doesShoot_20 : decode cX7_doesShoot 20 = .ok (.sipush 250, 3) := by decide +kernel
theorem dX7_doesShoot_23 : decode cX7_doesShoot 23 = .ok (.iconst 5, 1) := by decide +kernel
theorem dX7_doesShoot_24 : decode cX7_doesShoot 24 = .ok (.iload_n 1, 1) := by decide +kernel
theorem dX7_doesShoot_25 : decode cX7_doesShoot 25 = .ok (.imul, 1) := by decide +kernel
theorem dX7_doesShoot_26 : decode cX7_doesShoot 26 = .ok (.iadd, 1) := by decide +kernel
theorem dX7_doesShoot_27 : decode cX7_doesShoot 27 = .ok (.iconst 3, 1) := by decide +kernel
theorem dX7_doesShoot_28 : decode cX7_doesShoot 28 = .ok (.iadd, 1) := by decide +kernel
theorem dX7_doesShoot_29 : decode cX7_doesShoot 29 = .ok (.aload_n 0, 1) := by decide +kernel
theorem dX7_doesShoot_30 : decode cX7_doesShoot 30 = .ok (.getfield 7, 3) := by decide +kernel
theorem dX7_doesShoot_33 : decode cX7_doesShoot 33 = .ok (.iconst 0, 1) := by decide +kernel
theorem dX7_doesShoot_34 : decode cX7_doesShoot 34 = .ok (.iaload, 1) := by decide +kernel
theorem dX7_doesShoot_35 : decode cX7_doesShoot 35 = .ok (.iastore, 1) := by decide +kernel
theorem dX7_doesShoot_36 : decode cX7_doesShoot 36 = .ok (.aload_n 0, 1) := by decide +kernel
theorem dX7_doesShoot_37 : decode cX7_doesShoot 37 = .ok (.getfield 7, 3) := by decide +kernel
theorem dX7_doesShoot_40 : decode cX7_doesShoot 40 = .ok (.sipush 250, 3) := by decide +kernel
theorem dX7_doesShoot_43 : decode cX7_doesShoot 43 = .ok (.iconst 5, 1) := by decide +kernel
theorem dX7_doesShoot_44 : decode cX7_doesShoot 44 = .ok (.iload_n 1, 1) := by decide +kernel
theorem dX7_doesShoot_45 : decode cX7_doesShoot 45 = .ok (.imul, 1) := by decide +kernel
theorem dX7_doesShoot_46 : decode cX7_doesShoot 46 = .ok (.iadd, 1) := by decide +kernel
theorem dX7_doesShoot_47 : decode cX7_doesShoot 47 = .ok (.iconst 4, 1) := by decide +kernel
theorem dX7_doesShoot_48 : decode cX7_doesShoot 48 = .ok (.iadd, 1) := by decide +kernel
theorem dX7_doesShoot_49 : decode cX7_doesShoot 49 = .ok (.iload_n 2, 1) := by decide +kernel
theorem dX7_doesShoot_50 : decode cX7_doesShoot 50 = .ok (.iastore, 1) := by decide +kernel
theorem dX7_doesShoot_51 : decode cX7_doesShoot 51 = .ok (.aload_n 0, 1) := by decide +kernel
theorem dX7_doesShoot_52 : decode cX7_doesShoot 52 = .ok (.getfield 7, 3) := by decide +kernel
theorem dX7_doesShoot_55 : decode cX7_doesShoot 55 = .ok (.bipush 18, 2) := by decide +kernel
theorem dX7_doesShoot_57 : decode cX7_doesShoot 57 = .ok (.iload_n 2, 1) := by decide +kernel
theorem dX7_doesShoot_58 : decode cX7_doesShoot 58 = .ok (.iadd, 1) := by decide +kernel
theorem dX7_doesShoot_59 : decode cX7_doesShoot 59 = .ok (.aload_n 0, 1) := by decide +kernel
theorem dX7_doesShoot_60 : decode cX7_doesShoot 60 = .ok (.getfield 7, 3) := by decide +kernel
theorem dX7_doesShoot_63 : decode cX7_doesShoot 63 = .ok (.iconst 0, 1) := by decide +kernel
theorem dX7_doesShoot_64 : decode cX7_doesShoot 64 = .ok (.iaload, 1) := by decide +kernel
theorem dX7_doesShoot_65 : decode cX7_doesShoot 65 = .ok (.iastore, 1) := by decide +kernel
theorem dX7_doesShoot_66 : decode cX7_doesShoot 66 = .ok (.aload_n 0, 1) := by decide +kernel
theorem dX7_doesShoot_67 : decode cX7_doesShoot 67 = .ok (.getfield 7, 3) := by decide +kernel
theorem dX7_doesShoot_70 : decode cX7_doesShoot 70 = .ok (.bipush 26, 2) := by decide +kernel
theorem dX7_doesShoot_72 : decode cX7_doesShoot 72 = .ok (.iload_n 2, 1) := by decide +kernel
theorem dX7_doesShoot_73 : decode cX7_doesShoot 73 = .ok (.iadd, 1) := by decide +kernel
theorem dX7_doesShoot_74 : decode cX7_doesShoot 74 = .ok (.dup2, 1) := by decide +kernel
theorem dX7_doesShoot_75 : decode cX7_doesShoot 75 = .ok (.iaload, 1) := by decide +kernel
theorem dX7_doesShoot_76 : decode cX7_doesShoot 76 = .ok (.iconst 1, 1) := by decide +kernel
theorem dX7_doesShoot_77 : decode cX7_doesShoot 77 = .ok (.iadd, 1) := by decide +kernel
theorem dX7_doesShoot_78 : decode cX7_doesShoot 78 = .ok (.iastore, 1) := by decide +kernel
theorem dX7_doesShoot_79 : decode cX7_doesShoot 79 = .ok (.aload_n 0, 1) := by decide +kernel
theorem dX7_doesShoot_80 : decode cX7_doesShoot 80 = .ok (.getfield 7, 3) := by decide +kernel
theorem dX7_doesShoot_83 : decode cX7_doesShoot 83 = .ok (.iconst 5, 1) := by decide +kernel
theorem dX7_doesShoot_84 : decode cX7_doesShoot 84 = .ok (.dup2, 1) := by decide +kernel
theorem dX7_doesShoot_85 : decode cX7_doesShoot 85 = .ok (.iaload, 1) := by decide +kernel
theorem dX7_doesShoot_86 : decode cX7_doesShoot 86 = .ok (.iload_n 3, 1) := by decide +kernel
theorem dX7_doesShoot_87 : decode cX7_doesShoot 87 = .ok (.iadd, 1) := by decide +kernel
theorem dX7_doesShoot_88 : decode cX7_doesShoot 88 = .ok (.iastore, 1) := by decide +kernel
theorem dX7_doesShoot_89 : decode cX7_doesShoot 89 = .ok (.iload_n 3, 1) := by decide +kernel
theorem dX7_doesShoot_90 : decode cX7_doesShoot 90 = .ok (.ireturn, 1) := by decide +kernel
theorem dX7_costOf_0 : decode cX7_costOf 0 = .ok (.iload_n 2, 1) := by decide +kernel
theorem dX7_costOf_1 : decode cX7_costOf 1 = .ok (.iload_n 1, 1) := by decide +kernel
theorem dX7_costOf_2 : decode cX7_costOf 2 = .ok (.imul, 1) := by decide +kernel
theorem dX7_costOf_3 : decode cX7_costOf 3 = .ok (.iload_n 1, 1) := by decide +kernel
theorem dX7_costOf_4 : decode cX7_costOf 4 = .ok (.imul, 1) := by decide +kernel
theorem dX7_costOf_5 : decode cX7_costOf 5 = .ok (.istore_n 3, 1) := by decide +kernel
theorem dX7_costOf_6 : decode cX7_costOf 6 = .ok (.iload_n 3, 1) := by decide +kernel
theorem dX7_costOf_7 : decode cX7_costOf 7 = .ok (.iload_n 3, 1) := by decide +kernel
theorem dX7_costOf_8 : decode cX7_costOf 8 = .ok (.aload_n 0, 1) := by decide +kernel
theorem dX7_costOf_9 : decode cX7_costOf 9 = .ok (.getfield 7, 3) := by decide +kernel
theorem dX7_costOf_12 : decode cX7_costOf 12 = .ok (.bipush 6, 2) := by decide +kernel
theorem dX7_costOf_14 : decode cX7_costOf 14 = .ok (.iaload, 1) := by decide +kernel
theorem dX7_costOf_15 : decode cX7_costOf 15 = .ok (.imul, 1) := by decide +kernel
theorem dX7_costOf_16 : decode cX7_costOf 16 = .ok (.bipush 10, 2) := by decide +kernel
theorem dX7_costOf_18 : decode cX7_costOf 18 = .ok (.idiv, 1) := by decide +kernel
theorem dX7_costOf_19 : decode cX7_costOf 19 = .ok (.iadd, 1) := by decide +kernel
theorem dX7_costOf_20 : decode cX7_costOf 20 = .ok (.ireturn, 1) := by decide +kernel
theorem dX7_size_0 : decode cX7_size 0 = .ok (.aload_n 0, 1) := by decide +kernel
theorem dX7_size_1 : decode cX7_size 1 = .ok (.iconst 0, 1) := by decide +kernel
theorem dX7_size_2 : decode cX7_size 2 = .ok (.putfield 22, 3) := by decide +kernel
theorem dX7_size_5 : decode cX7_size 5 = .ok (.iload_n 1, 1) := by decide +kernel
theorem dX7_size_6 : decode cX7_size 6 = .ok (.invokestatic 90, 3) := by decide +kernel
theorem dX7_size_9 : decode cX7_size 9 = .ok (.ifCond .ne 9, 3) := by decide +kernel
theorem dX7_size_12 : decode cX7_size 12 = .ok (.aload_n 0, 1) := by decide +kernel
theorem dX7_size_13 : decode cX7_size 13 = .ok (.iconst 1, 1) := by decide +kernel
theorem dX7_size_14 : decode cX7_size 14 = .ok (.invokevirtual 33, 3) := by decide +kernel
theorem dX7_size_17 : decode cX7_size 17 = .ok (.ireturn, 1) := by decide +kernel
theorem dX7_size_18 : decode cX7_size 18 = .ok (.iload_n 2, 1) := by decide +kernel
theorem dX7_size_19 : decode cX7_size 19 = .ok (.sipush 150, 3) := by decide +kernel
theorem dX7_size_22 : decode cX7_size 22 = .ok (.sipush 200, 3) := by decide +kernel
theorem dX7_size_25 : decode cX7_size 25 = .ok (.invokestatic 26, 3) := by decide +kernel
theorem dX7_size_28 : decode cX7_size 28 = .ok (.ifCond .ne 9, 3) := by decide +kernel
theorem dX7_size_31 : decode cX7_size 31 = .ok (.aload_n 0, 1) := by decide +kernel
theorem dX7_size_32 : decode cX7_size 32 = .ok (.iconst 2, 1) := by decide +kernel
theorem dX7_size_33 : decode cX7_size 33 = .ok (.invokevirtual 33, 3) := by decide +kernel
theorem dX7_size_36 : decode cX7_size 36 = .ok (.ireturn, 1) := by decide +kernel
theorem dX7_size_37 : decode cX7_size 37 = .ok (.aload_n 0, 1) := by decide +kernel
theorem dX7_size_38 : decode cX7_size 38 = .ok (.invokevirtual 94, 3) := by decide +kernel
theorem dX7_size_41 : decode cX7_size 41 = .ok (.aload_n 0, 1) := by decide +kernel
theorem dX7_size_42 : decode cX7_size 42 = .ok (.getfield 7, 3) := by decide +kernel
theorem dX7_size_45 : decode cX7_size 45 = .ok (.bipush 10, 2) := by decide +kernel
theorem dX7_size_47 : decode cX7_size 47 = .ok (.iload_n 1, 1) := by decide +kernel
theorem dX7_size_48 : decode cX7_size 48 = .ok (.iadd, 1) := by decide +kernel
theorem dX7_size_49 : decode cX7_size 49 = .ok (.iaload, 1) := by decide +kernel
theorem dX7_size_50 : decode cX7_size 50 = .ok (.istore_n 3, 1) := by decide +kernel
theorem dX7_size_51 : decode cX7_size 51 = .ok (.aload_n 0, 1) := by decide +kernel
theorem dX7_size_52 : decode cX7_size 52 = .ok (.getfield 7, 3) := by decide +kernel
theorem dX7_size_55 : decode cX7_size 55 = .ok (.bipush 10, 2) := by decide +kernel
theorem dX7_size_57 : decode cX7_size 57 = .ok (.iload_n 1, 1) := by decide +kernel
theorem dX7_size_58 : decode cX7_size 58 = .ok (.iadd, 1) := by decide +kernel
theorem dX7_size_59 : decode cX7_size 59 = .ok (.iload_n 2, 1) := by decide +kernel
theorem dX7_size_60 : decode cX7_size 60 = .ok (.iastore, 1) := by decide +kernel
theorem dX7_size_61 : decode cX7_size 61 = .ok (.iload_n 3, 1) := by decide +kernel
theorem dX7_size_62 : decode cX7_size 62 = .ok (.ireturn, 1) := by decide +kernel
theorem dX7_pass_0 : decode cX7_pass 0 = .ok (.aload_n 0, 1) := by decide +kernel
theorem dX7_pass_1 : decode cX7_pass 1 = .ok (.iconst 0, 1) := by decide +kernel
theorem dX7_pass_2 : decode cX7_pass 2 = .ok (.putfield 22, 3) := by decide +kernel
theorem dX7_pass_5 : decode cX7_pass 5 = .ok (.iload_n 1, 1) := by decide +kernel
theorem dX7_pass_6 : decode cX7_pass 6 = .ok (.iconst 1, 1) := by decide +kernel
theorem dX7_pass_7 : decode cX7_pass 7 = .ok (.bipush 99, 2) := by decide +kernel
theorem dX7_pass_9 : decode cX7_pass 9 = .ok (.invokestatic 26, 3) := by decide +kernel
theorem dX7_pass_12 : decode cX7_pass 12 = .ok (.ifCond .ne 9, 3) := by decide +kernel
theorem dX7_pass_15 : decode cX7_pass 15 = .ok (.aload_n 0, 1) := by decide +kernel
theorem dX7_pass_16 : decode cX7_pass 16 = .ok (.iconst 1, 1) := by decide +kernel
theorem dX7_pass_17 : decode cX7_pass 17 = .ok (.invokevirtual 33, 3) := by decide +kernel
theorem dX7_pass_20 : decode cX7_pass 20 = .ok (.ireturn, 1) := by decide +kernel
theorem dX7_pass_21 : decode cX7_pass 21 = .ok (.aload_n 0, 1) := by decide +kernel
theorem dX7_pass_22 : decode cX7_pass 22 = .ok (.getfield 7, 3) := by decide +kernel
theorem dX7_pass_25 : decode cX7_pass 25 = .ok (.iconst 0, 1) := by decide +kernel
theorem dX7_pass_26 : decode cX7_pass 26 = .ok (.iaload, 1) := by decide +kernel
theorem dX7_pass_27 : decode cX7_pass 27 = .ok (.iload_n 1, 1) := by decide +kernel
theorem dX7_pass_28 : decode cX7_pass 28 = .ok (.iadd, 1) := by decide +kernel
theorem dX7_pass_29 : decode cX7_pass 29 = .ok (.sipush 999, 3) := by decide +kernel
theorem dX7_pass_32 : decode cX7_pass 32 = .ok (.if_icmp .le 9, 3) := by decide +kernel
theorem dX7_pass_35 : decode cX7_pass 35 = .ok (.aload_n 0, 1) := by decide +kernel
theorem dX7_pass_36 : decode cX7_pass 36 = .ok (.iconst 2, 1) := by decide +kernel
theorem dX7_pass_37 : decode cX7_pass 37 = .ok (.invokevirtual 33, 3) := by decide +kernel
theorem dX7_pass_40 : decode cX7_pass 40 = .ok (.ireturn, 1) := by decide +kernel
theorem dX7_pass_41 : decode cX7_pass 41 = .ok (.aload_n 0, 1) := by decide +kernel
theorem dX7_pass_42 : decode cX7_pass 42 = .ok (.invokevirtual 94, 3) := by decide +kernel
theorem dX7_pass_45 : decode cX7_pass 45 = .ok (.aload_n 0, 1) := by decide +kernel
theorem dX7_pass_46 : decode cX7_pass 46 = .ok (.iload_n 1, 1) := by decide +kernel
theorem dX7_pass_47 : decode cX7_pass 47 = .ok (.invokevirtual 97, 3) := by decide +kernel
theorem dX7_pass_50 : decode cX7_pass 50 = .ok (.ireturn, 1) := by decide +kernel
theorem dX7_rehearse_0 : decode cX7_rehearse 0 = .ok (.aload_n 0, 1) := by decide +kernel
theorem dX7_rehearse_1 : decode cX7_rehearse 1 = .ok (.iconst 0, 1) := by decide +kernel
theorem dX7_rehearse_2 : decode cX7_rehearse 2 = .ok (.putfield 22, 3) := by decide +kernel
theorem dX7_rehearse_5 : decode cX7_rehearse 5 = .ok (.iload_n 1, 1) := by decide +kernel
theorem dX7_rehearse_6 : decode cX7_rehearse 6 = .ok (.invokestatic 90, 3) := by decide +kernel
theorem dX7_rehearse_9 : decode cX7_rehearse 9 = .ok (.ifCond .eq 10, 3) := by decide +kernel
theorem dX7_rehearse_12 : decode cX7_rehearse 12 = .ok (.iload_n 2, 1) := by decide +kernel
theorem dX7_rehearse_13 : decode cX7_rehearse 13 = .ok (.invokestatic 100, 3) := by decide +kernel
theorem dX7_rehearse_16 : decode cX7_rehearse 16 = .ok (.ifCond .ne 9, 3) := by decide +kernel
theorem dX7_rehearse_19 : decode cX7_rehearse 19 = .ok (.aload_n 0, 1) := by decide +kernel
theorem dX7_rehearse_20 : decode cX7_rehearse 20 = .ok (.iconst 1, 1) := by decide +kernel
theorem dX7_rehearse_21 : decode cX7_rehearse 21 = .ok (.invokevirtual 33, 3) := by decide +kernel
theorem dX7_rehearse_24 : decode cX7_rehearse 24 = .ok (.ireturn, 1) := by decide +kernel
theorem dX7_rehearse_25 : decode cX7_rehearse 25 = .ok (.iload_n 3, 1) := by decide +kernel
theorem dX7_rehearse_26 : decode cX7_rehearse 26 = .ok (.invokestatic 103, 3) := by decide +kernel
theorem dX7_rehearse_29 : decode cX7_rehearse 29 = .ok (.ifCond .ne 9, 3) := by decide +kernel
theorem dX7_rehearse_32 : decode cX7_rehearse 32 = .ok (.aload_n 0, 1) := by decide +kernel
theorem dX7_rehearse_33 : decode cX7_rehearse 33 = .ok (.iconst 2, 1) := by decide +kernel
theorem dX7_rehearse_34 : decode cX7_rehearse 34 = .ok (.invokevirtual 33, 3) := by decide +kernel
theorem dX7_rehearse_37 : decode cX7_rehearse 37 = .ok (.ireturn, 1) := by decide +kernel
theorem dX7_rehearse_38 : decode cX7_rehearse 38 = .ok (.aload_n 0, 1) := by decide +kernel
theorem dX7_rehearse_39 : decode cX7_rehearse 39 = .ok (.iload_n 1, 1) := by decide +kernel
theorem dX7_rehearse_40 : decode cX7_rehearse 40 = .ok (.iload_n 2, 1) := by decide +kernel
theorem dX7_rehearse_41 : decode cX7_rehearse 41 = .ok (.aload_n 0, 1) := by decide +kernel
theorem dX7_rehearse_42 : decode cX7_rehearse 42 = .ok (.getfield 7, 3) := by decide +kernel
theorem dX7_rehearse_45 : decode cX7_rehearse 45 = .ok (.iconst 0, 1) := by decide +kernel
theorem dX7_rehearse_46 : decode cX7_rehearse 46 = .ok (.iaload, 1) := by decide +kernel
theorem dX7_rehearse_47 : decode cX7_rehearse 47 = .ok (.invokevirtual 47, 3) := by decide +kernel
theorem dX7_rehearse_50 : decode cX7_rehearse 50 = .ok (.ifCond .eq 9, 3) := by decide +kernel
theorem dX7_rehearse_53 : decode cX7_rehearse 53 = .ok (.aload_n 0, 1) := by decide +kernel
theorem dX7_rehearse_54 : decode cX7_rehearse 54 = .ok (.iconst 3, 1) := by decide +kernel
theorem dX7_rehearse_55 : decode cX7_rehearse 55 = .ok (.invokevirtual 33, 3) := by decide +kernel
theorem dX7_rehearse_58 : decode cX7_rehearse 58 = .ok (.ireturn, 1) := by decide +kernel
theorem dX7_rehearse_59 : decode cX7_rehearse 59 = .ok (.aload_n 0, 1) := by decide +kernel
theorem dX7_rehearse_60 : decode cX7_rehearse 60 = .ok (.invokevirtual 94, 3) := by decide +kernel
theorem dX7_rehearse_63 : decode cX7_rehearse 63 = .ok (.aload_n 0, 1) := by decide +kernel
theorem dX7_rehearse_64 : decode cX7_rehearse 64 = .ok (.iload_n 1, 1) := by decide +kernel
theorem dX7_rehearse_65 : decode cX7_rehearse 65 = .ok (.iload_n 2, 1) := by decide +kernel
theorem dX7_rehearse_66 : decode cX7_rehearse 66 = .ok (.iload_n 3, 1) := by decide +kernel
theorem dX7_rehearse_67 : decode cX7_rehearse 67 = .ok (.invokevirtual 106, 3) := by decide +kernel
theorem dX7_rehearse_70 : decode cX7_rehearse 70 = .ok (.ireturn, 1) := by decide +kernel
theorem dX7_hurt_0 : decode cX7_hurt 0 = .ok (.aload_n 0, 1) := by decide +kernel
theorem dX7_hurt_1 : decode cX7_hurt 1 = .ok (.iconst 0, 1) := by decide +kernel
theorem dX7_hurt_2 : decode cX7_hurt 2 = .ok (.putfield 22, 3) := by decide +kernel
theorem dX7_hurt_5 : decode cX7_hurt 5 = .ok (.iload_n 1, 1) := by decide +kernel
theorem dX7_hurt_6 : decode cX7_hurt 6 = .ok (.invokestatic 90, 3) := by decide +kernel
theorem dX7_hurt_9 : decode cX7_hurt 9 = .ok (.ifCond .ne 9, 3) := by decide +kernel
theorem dX7_hurt_12 : decode cX7_hurt 12 = .ok (.aload_n 0, 1) := by decide +kernel
theorem dX7_hurt_13 : decode cX7_hurt 13 = .ok (.iconst 1, 1) := by decide +kernel
theorem dX7_hurt_14 : decode cX7_hurt 14 = .ok (.invokevirtual 33, 3) := by decide +kernel
theorem dX7_hurt_17 : decode cX7_hurt 17 = .ok (.ireturn, 1) := by decide +kernel
theorem dX7_hurt_18 : decode cX7_hurt 18 = .ok (.iload_n 2, 1) := by decide +kernel
theorem dX7_hurt_19 : decode cX7_hurt 19 = .ok (.invokestatic 109, 3) := by decide +kernel
theorem dX7_hurt_22 : decode cX7_hurt 22 = .ok (.ifCond .eq 13, 3) := by decide +kernel
theorem dX7_hurt_25 : decode cX7_hurt 25 = .ok (.iload_n 3, 1) := by decide +kernel
theorem dX7_hurt_26 : decode cX7_hurt 26 = .ok (.iconst 1, 1) := by decide +kernel
theorem dX7_hurt_27 : decode cX7_hurt 27 = .ok (.bipush 60, 2) := by decide +kernel
theorem dX7_hurt_29 : decode cX7_hurt 29 = .ok (.invokestatic 26, 3) := by decide +kernel
theorem dX7_hurt_32 : decode cX7_hurt 32 = .ok (.ifCond .ne 9, 3) := by decide +kernel
theorem dX7_hurt_35 : decode cX7_hurt 35 = .ok (.aload_n 0, 1) := by decide +kernel
theorem dX7_hurt_36 : decode cX7_hurt 36 = .ok (.iconst 2, 1) := by decide +kernel
theorem dX7_hurt_37 : decode cX7_hurt 37 = .ok (.invokevirtual 33, 3) := by decide +kernel
theorem dX7_hurt_40 : decode cX7_hurt 40 = .ok (.ireturn, 1) := by decide +kernel
theorem dX7_hurt_41 : decode cX7_hurt 41 = .ok (.aload_n 0, 1) := by decide +kernel
theorem dX7_hurt_42 : decode cX7_hurt 42 = .ok (.invokevirtual 94, 3) := by decide +kernel
theorem dX7_hurt_45 : decode cX7_hurt 45 = .ok (.aload_n 0, 1) := by decide +kernel
theorem dX7_hurt_46 : decode cX7_hurt 46 = .ok (.iload_n 1, 1) := by decide +kernel
theorem dX7_hurt_47 : decode cX7_hurt 47 = .ok (.iload_n 2, 1) := by decide +kernel
theorem dX7_hurt_48 : decode cX7_hurt 48 = .ok (.iload_n 3, 1) := by decide +kernel
theorem dX7_hurt_49 : decode cX7_hurt 49 = .ok (.invokevirtual 59, 3) := by decide +kernel
theorem dX7_hurt_52 : decode cX7_hurt 52 = .ok (.iconst 0, 1) := by decide +kernel
theorem dX7_hurt_53 : decode cX7_hurt 53 = .ok (.istore 4, 2) := by decide +kernel
theorem dX7_hurt_55 : decode cX7_hurt 55 = .ok (.iconst 0, 1) := by decide +kernel
theorem dX7_hurt_56 : decode cX7_hurt 56 = .ok (.istore 5, 2) := by decide +kernel
theorem dX7_hurt_58 : decode cX7_hurt 58 = .ok (.iload 5, 2) := by decide +kernel
theorem dX7_hurt_60 : decode cX7_hurt 60 = .ok (.aload_n 0, 1) := by decide +kernel
theorem dX7_hurt_61 : decode cX7_hurt 61 = .ok (.getfield 7, 3) := by decide +kernel
theorem dX7_hurt_64 : decode cX7_hurt 64 = .ok (.iconst 4, 1) := by decide +kernel
theorem dX7_hurt_65 : decode cX7_hurt 65 = .ok (.iaload, 1) := by decide +kernel
theorem dX7_hurt_66 : decode cX7_hurt 66 = .ok (.if_icmp .ge 63, 3) := by decide +kernel
theorem dX7_hurt_69 : decode cX7_hurt 69 = .ok (.aload_n 0, 1) := by decide +kernel
theorem dX7_hurt_70 : decode cX7_hurt 70 = .ok (.iload 5, 2) := by decide +kernel
theorem dX7_hurt_72 : decode cX7_hurt 72 = .ok (.iconst 3, 1) := by decide +kernel
theorem dX7_hurt_73 : decode cX7_hurt 73 = .ok (.invokevirtual 63, 3) := by decide +kernel
theorem dX7_hurt_76 : decode cX7_hurt 76 = .ok (.iconst (-1), 1) := by decide +kernel
theorem dX7_hurt_77 : decode cX7_hurt 77 = .ok (.if_icmp .ne 7, 3) := by decide +kernel
theorem dX7_hurt_80 : decode cX7_hurt 80 = .ok (.iconst 1, 1) := by decide +kernel
theorem dX7_hurt_81 : decode cX7_hurt 81 = .ok (.goto 4, 3) := by decide +kernel
theorem dX7_hurt_84 : decode cX7_hurt 84 = .ok (.iconst 0, 1) := by decide +kernel
theorem dX7_hurt_85 : decode cX7_hurt 85 = .ok (.istore 6, 2) := by decide +kernel
theorem dX7_hurt_87 : decode cX7_hurt 87 = .ok (.iload 4, 2) := by decide +kernel
theorem dX7_hurt_89 : decode cX7_hurt 89 = .ok (.iload 6, 2) := by decide +kernel
theorem dX7_hurt_91 : decode cX7_hurt 91 = .ok (.ifCond .eq 28, 3) := by decide +kernel
theorem dX7_hurt_94 : decode cX7_hurt 94 = .ok (.aload_n 0, 1) := by decide +kernel
theorem dX7_hurt_95 : decode cX7_hurt 95 = .ok (.iload_n 1, 1) := by decide +kernel
theorem dX7_hurt_96 : decode cX7_hurt 96 = .ok (.aload_n 0, 1) := by decide +kernel
theorem dX7_hurt_97 : decode cX7_hurt 97 = .ok (.iload 5, 2) := by decide +kernel
theorem dX7_hurt_99 : decode cX7_hurt 99 = .ok (.iconst 0, 1) := by decide +kernel
theorem dX7_hurt_100 : decode cX7_hurt 100 = .ok (.invokevirtual 63, 3) := by decide +kernel
theorem dX7_hurt_103 : decode cX7_hurt 103 = .ok (.aload_n 0, 1) := by decide +kernel
theorem dX7_hurt_104 : decode cX7_hurt 104 = .ok (.getfield 7, 3) := by decide +kernel
theorem dX7_hurt_107 : decode cX7_hurt 107 = .ok (.iconst 0, 1) := by decide +kernel
theorem dX7_hurt_108 : decode cX7_hurt 108 = .ok (.iaload, 1) := by decide +kernel
theorem dX7_hurt_109 : decode cX7_hurt 109 = .ok (.invokevirtual 47, 3) := by decide +kernel
theorem dX7_hurt_112 : decode cX7_hurt 112 = .ok (.ifCond .eq 7, 3) := by decide +kernel
theorem dX7_hurt_115 : decode cX7_hurt 115 = .ok (.iconst 1, 1) := by decide +kernel
theorem dX7_hurt_116 : decode cX7_hurt 116 = .ok (.goto 4, 3) := by decide +kernel
theorem dX7_hurt_119 : decode cX7_hurt 119 = .ok (.iconst 0, 1) := by decide +kernel
theorem dX7_hurt_120 : decode cX7_hurt 120 = .ok (.iadd, 1) := by decide +kernel
theorem dX7_hurt_121 : decode cX7_hurt 121 = .ok (.istore 4, 2) := by decide +kernel
theorem dX7_hurt_123 : decode cX7_hurt 123 = .ok (.iinc 5 1, 3) := by decide +kernel
theorem dX7_hurt_126 : decode cX7_hurt 126 = .ok (.goto (-68), 3) := by decide +kernel
theorem dX7_hurt_129 : decode cX7_hurt 129 = .ok (.iload 4, 2) := by decide +kernel
theorem dX7_hurt_131 : decode cX7_hurt 131 = .ok (.ireturn, 1) := by decide +kernel
theorem dX7_insure_0 : decode cX7_insure 0 = .ok (.aload_n 0, 1) := by decide +kernel
theorem dX7_insure_1 : decode cX7_insure 1 = .ok (.iconst 0, 1) := by decide +kernel
theorem dX7_insure_2 : decode cX7_insure 2 = .ok (.putfield 22, 3) := by decide +kernel
theorem dX7_insure_5 : decode cX7_insure 5 = .ok (.iload_n 1, 1) := by decide +kernel
theorem dX7_insure_6 : decode cX7_insure 6 = .ok (.iconst 1, 1) := by decide +kernel
theorem dX7_insure_7 : decode cX7_insure 7 = .ok (.iconst 5, 1) := by decide +kernel
theorem dX7_insure_8 : decode cX7_insure 8 = .ok (.invokestatic 26, 3) := by decide +kernel
theorem dX7_insure_11 : decode cX7_insure 11 = .ok (.ifCond .eq 13, 3) := by decide +kernel
theorem dX7_insure_14 : decode cX7_insure 14 = .ok (.iload_n 2, 1) := by decide +kernel
theorem dX7_insure_15 : decode cX7_insure 15 = .ok (.iconst 1, 1) := by decide +kernel
theorem dX7_insure_16 : decode cX7_insure 16 = .ok (.bipush 60, 2) := by decide +kernel
theorem dX7_insure_18 : decode cX7_insure 18 = .ok (.invokestatic 26, 3) := by decide +kernel
theorem dX7_insure_21 : decode cX7_insure 21 = .ok (.ifCond .ne 9, 3) := by decide +kernel
theorem dX7_insure_24 : decode cX7_insure 24 = .ok (.aload_n 0, 1) := by decide +kernel
theorem dX7_insure_25 : decode cX7_insure 25 = .ok (.iconst 1, 1) := by decide +kernel
theorem dX7_insure_26 : decode cX7_insure 26 = .ok (.invokevirtual 33, 3) := by decide +kernel
theorem dX7_insure_29 : decode cX7_insure 29 = .ok (.ireturn, 1) := by decide +kernel
theorem dX7_insure_30 : decode cX7_insure 30 = .ok (.aload_n 0, 1) := by decide +kernel
theorem dX7_insure_31 : decode cX7_insure 31 = .ok (.iload_n 1, 1) := by decide +kernel
theorem dX7_insure_32 : decode cX7_insure 32 = .ok (.iload_n 2, 1) := by decide +kernel
theorem dX7_insure_33 : decode cX7_insure 33 = .ok (.invokevirtual 112, 3) := by decide +kernel
theorem dX7_insure_36 : decode cX7_insure 36 = .ok (.istore_n 3, 1) := by decide +kernel
theorem dX7_insure_37 : decode cX7_insure 37 = .ok (.iload_n 3, 1) := by decide +kernel
theorem dX7_insure_38 : decode cX7_insure 38 = .ok (.aload_n 0, 1) := by decide +kernel
theorem dX7_insure_39 : decode cX7_insure 39 = .ok (.getfield 7, 3) := by decide +kernel
theorem dX7_insure_42 : decode cX7_insure 42 = .ok (.iconst 1, 1) := by decide +kernel
theorem dX7_insure_43 : decode cX7_insure 43 = .ok (.iaload, 1) := by decide +kernel
theorem dX7_insure_44 : decode cX7_insure 44 = .ok (.if_icmp .le 9, 3) := by decide +kernel
theorem dX7_insure_47 : decode cX7_insure 47 = .ok (.aload_n 0, 1) := by decide +kernel
theorem dX7_insure_48 : decode cX7_insure 48 = .ok (.iconst 2, 1) := by decide +kernel
theorem dX7_insure_49 : decode cX7_insure 49 = .ok (.invokevirtual 33, 3) := by decide +kernel
theorem dX7_insure_52 : decode cX7_insure 52 = .ok (.ireturn, 1) := by decide +kernel
theorem dX7_insure_53 : decode cX7_insure 53 = .ok (.aload_n 0, 1) := by decide +kernel
theorem dX7_insure_54 : decode cX7_insure 54 = .ok (.invokevirtual 94, 3) := by decide +kernel
theorem dX7_insure_57 : decode cX7_insure 57 = .ok (.aload_n 0, 1) := by decide +kernel
theorem dX7_insure_58 : decode cX7_insure 58 = .ok (.getfield 7, 3) := by decide +kernel
theorem dX7_insure_61 : decode cX7_insure 61 = .ok (.iconst 1, 1) := by decide +kernel
theorem dX7_insure_62 : decode cX7_insure 62 = .ok (.dup2, 1) := by decide +kernel
theorem dX7_insure_63 : decode cX7_insure 63 = .ok (.iaload, 1) := by decide +kernel
theorem dX7_insure_64 : decode cX7_insure 64 = .ok (.iload_n 3, 1) := by decide +kernel
theorem dX7_insure_65 : decode cX7_insure 65 = .ok (.isub, 1) := by decide +kernel
theorem dX7_insure_66 : decode cX7_insure 66 = .ok (.iastore, 1) := by decide +kernel
theorem dX7_insure_67 : decode cX7_insure 67 = .ok (.aload_n 0, 1) := by decide +kernel
theorem dX7_insure_68 : decode cX7_insure 68 = .ok (.getfield 7, 3) := by decide +kernel
theorem dX7_insure_71 : decode cX7_insure 71 = .ok (.iconst 2, 1) := by decide +kernel
theorem dX7_insure_72 : decode cX7_insure 72 = .ok (.iload_n 1, 1) := by decide +kernel
theorem dX7_insure_73 : decode cX7_insure 73 = .ok (.iastore, 1) := by decide +kernel
theorem dX7_insure_74 : decode cX7_insure 74 = .ok (.aload_n 0, 1) := by decide +kernel
theorem dX7_insure_75 : decode cX7_insure 75 = .ok (.getfield 7, 3) := by decide +kernel
theorem dX7_insure_78 : decode cX7_insure 78 = .ok (.iconst 3, 1) := by decide +kernel
theorem dX7_insure_79 : decode cX7_insure 79 = .ok (.aload_n 0, 1) := by decide +kernel
theorem dX7_insure_80 : decode cX7_insure 80 = .ok (.getfield 7, 3) := by decide +kernel
theorem dX7_insure_83 : decode cX7_insure 83 = .ok (.iconst 0, 1) := by decide +kernel
theorem dX7_insure_84 : decode cX7_insure 84 = .ok (.iaload, 1) := by decide +kernel
theorem dX7_insure_85 : decode cX7_insure 85 = .ok (.iload_n 2, 1) := by decide +kernel
theorem dX7_insure_86 : decode cX7_insure 86 = .ok (.iadd, 1) := by decide +kernel
theorem dX7_insure_87 : decode cX7_insure 87 = .ok (.iconst 1, 1) := by decide +kernel
theorem dX7_insure_88 : decode cX7_insure 88 = .ok (.isub, 1) := by decide +kernel
theorem dX7_insure_89 : decode cX7_insure 89 = .ok (.iastore, 1) := by decide +kernel
theorem dX7_insure_90 : decode cX7_insure 90 = .ok (.aload_n 0, 1) := by decide +kernel
theorem dX7_insure_91 : decode cX7_insure 91 = .ok (.getfield 7, 3) := by decide +kernel
theorem dX7_insure_94 : decode cX7_insure 94 = .ok (.iconst 1, 1) := by decide +kernel
theorem dX7_insure_95 : decode cX7_insure 95 = .ok (.iaload, 1) := by decide +kernel
theorem dX7_insure_96 : decode cX7_insure 96 = .ok (.ireturn, 1) := by decide +kernel
theorem dX7_scene_0 : decode cX7_scene 0 = .ok (.aload_n 0, 1) := by decide +kernel
theorem dX7_scene_1 : decode cX7_scene 1 = .ok (.iconst 0, 1) := by decide +kernel
theorem dX7_scene_2 : decode cX7_scene 2 = .ok (.putfield 22, 3) := by decide +kernel
theorem dX7_scene_5 : decode cX7_scene 5 = .ok (.iload_n 1, 1) := by decide +kernel
theorem dX7_scene_6 : decode cX7_scene 6 = .ok (.invokestatic 100, 3) := by decide +kernel
theorem dX7_scene_9 : decode cX7_scene 9 = .ok (.ifCond .eq 10, 3) := by decide +kernel
theorem dX7_scene_12 : decode cX7_scene 12 = .ok (.iload_n 3, 1) := by decide +kernel
theorem dX7_scene_13 : decode cX7_scene 13 = .ok (.invokestatic 90, 3) := by decide +kernel
theorem dX7_scene_16 : decode cX7_scene 16 = .ok (.ifCond .ne 9, 3) := by decide +kernel
theorem dX7_scene_19 : decode cX7_scene 19 = .ok (.aload_n 0, 1) := by decide +kernel
theorem dX7_scene_20 : decode cX7_scene 20 = .ok (.iconst 1, 1) := by decide +kernel
theorem dX7_scene_21 : decode cX7_scene 21 = .ok (.invokevirtual 33, 3) := by decide +kernel
theorem dX7_scene_24 : decode cX7_scene 24 = .ok (.ireturn, 1) := by decide +kernel
theorem dX7_scene_25 : decode cX7_scene 25 = .ok (.iload_n 2, 1) := by decide +kernel
theorem dX7_scene_26 : decode cX7_scene 26 = .ok (.invokestatic 103, 3) := by decide +kernel
theorem dX7_scene_29 : decode cX7_scene 29 = .ok (.ifCond .ne 9, 3) := by decide +kernel
theorem dX7_scene_32 : decode cX7_scene 32 = .ok (.aload_n 0, 1) := by decide +kernel
theorem dX7_scene_33 : decode cX7_scene 33 = .ok (.iconst 2, 1) := by decide +kernel
theorem dX7_scene_34 : decode cX7_scene 34 = .ok (.invokevirtual 33, 3) := by decide +kernel
theorem dX7_scene_37 : decode cX7_scene 37 = .ok (.ireturn, 1) := by decide +kernel
theorem dX7_scene_38 : decode cX7_scene 38 = .ok (.aload_n 0, 1) := by decide +kernel
theorem dX7_scene_39 : decode cX7_scene 39 = .ok (.getfield 7, 3) := by decide +kernel
theorem dX7_scene_42 : decode cX7_scene 42 = .ok (.iconst 4, 1) := by decide +kernel
theorem dX7_scene_43 : decode cX7_scene 43 = .ok (.iaload, 1) := by decide +kernel
theorem dX7_scene_44 : decode cX7_scene 44 = .ok (.bipush 10, 2) := by decide +kernel
theorem dX7_scene_46 : decode cX7_scene 46 = .ok (.if_icmp .ne 9, 3) := by decide +kernel
theorem dX7_scene_49 : decode cX7_scene 49 = .ok (.aload_n 0, 1) := by decide +kernel
theorem dX7_scene_50 : decode cX7_scene 50 = .ok (.iconst 3, 1) := by decide +kernel
theorem dX7_scene_51 : decode cX7_scene 51 = .ok (.invokevirtual 33, 3) := by decide +kernel
theorem dX7_scene_54 : decode cX7_scene 54 = .ok (.ireturn, 1) := by decide +kernel
theorem dX7_scene_55 : decode cX7_scene 55 = .ok (.aload_n 0, 1) := by decide +kernel
theorem dX7_scene_56 : decode cX7_scene 56 = .ok (.invokevirtual 94, 3) := by decide +kernel
theorem dX7_scene_59 : decode cX7_scene 59 = .ok (.sipush 250, 3) := by decide +kernel
theorem dX7_scene_62 : decode cX7_scene 62 = .ok (.iconst 5, 1) := by decide +kernel
theorem dX7_scene_63 : decode cX7_scene 63 = .ok (.aload_n 0, 1) := by decide +kernel
theorem dX7_scene_64 : decode cX7_scene 64 = .ok (.getfield 7, 3) := by decide +kernel
theorem dX7_scene_67 : decode cX7_scene 67 = .ok (.iconst 4, 1) := by decide +kernel
theorem dX7_scene_68 : decode cX7_scene 68 = .ok (.iaload, 1) := by decide +kernel
theorem dX7_scene_69 : decode cX7_scene 69 = .ok (.imul, 1) := by decide +kernel
theorem dX7_scene_70 : decode cX7_scene 70 = .ok (.iadd, 1) := by decide +kernel
theorem dX7_scene_71 : decode cX7_scene 71 = .ok (.istore 4, 2) := by decide +kernel
theorem dX7_scene_73 : decode cX7_scene 73 = .ok (.aload_n 0, 1) := by decide +kernel
theorem dX7_scene_74 : decode cX7_scene 74 = .ok (.getfield 7, 3) := by decide +kernel
theorem dX7_scene_77 : decode cX7_scene 77 = .ok (.iload 4, 2) := by decide +kernel
theorem dX7_scene_79 : decode cX7_scene 79 = .ok (.iconst 0, 1) := by decide +kernel
theorem dX7_scene_80 : decode cX7_scene 80 = .ok (.iadd, 1) := by decide +kernel
theorem dX7_scene_81 : decode cX7_scene 81 = .ok (.iload_n 1, 1) := by decide +kernel
theorem dX7_scene_82 : decode cX7_scene 82 = .ok (.iastore, 1) := by decide +kernel
theorem dX7_scene_83 : decode cX7_scene 83 = .ok (.aload_n 0, 1) := by decide +kernel
theorem dX7_scene_84 : decode cX7_scene 84 = .ok (.getfield 7, 3) := by decide +kernel
theorem dX7_scene_87 : decode cX7_scene 87 = .ok (.iload 4, 2) := by decide +kernel
theorem dX7_scene_89 : decode cX7_scene 89 = .ok (.iconst 1, 1) := by decide +kernel
theorem dX7_scene_90 : decode cX7_scene 90 = .ok (.iadd, 1) := by decide +kernel
theorem dX7_scene_91 : decode cX7_scene 91 = .ok (.iload_n 2, 1) := by decide +kernel
theorem dX7_scene_92 : decode cX7_scene 92 = .ok (.iastore, 1) := by decide +kernel
theorem dX7_scene_93 : decode cX7_scene 93 = .ok (.aload_n 0, 1) := by decide +kernel
theorem dX7_scene_94 : decode cX7_scene 94 = .ok (.getfield 7, 3) := by decide +kernel
theorem dX7_scene_97 : decode cX7_scene 97 = .ok (.iload 4, 2) := by decide +kernel
theorem dX7_scene_99 : decode cX7_scene 99 = .ok (.iconst 2, 1) := by decide +kernel
theorem dX7_scene_100 : decode cX7_scene 100 = .ok (.iadd, 1) := by decide +kernel
theorem dX7_scene_101 : decode cX7_scene 101 = .ok (.iload_n 3, 1) := by decide +kernel
theorem dX7_scene_102 : decode cX7_scene 102 = .ok (.iastore, 1) := by decide +kernel
theorem dX7_scene_103 : decode cX7_scene 103 = .ok (.aload_n 0, 1) := by decide +kernel
theorem dX7_scene_104 : decode cX7_scene 104 = .ok (.getfield 7, 3) := by decide +kernel
theorem dX7_scene_107 : decode cX7_scene 107 = .ok (.iload 4, 2) := by decide +kernel
theorem dX7_scene_109 : decode cX7_scene 109 = .ok (.iconst 3, 1) := by decide +kernel
theorem dX7_scene_110 : decode cX7_scene 110 = .ok (.iadd, 1) := by decide +kernel
theorem dX7_scene_111 : decode cX7_scene 111 = .ok (.iconst (-1), 1) := by decide +kernel
theorem dX7_scene_112 : decode cX7_scene 112 = .ok (.iastore, 1) := by decide +kernel
theorem dX7_scene_113 : decode cX7_scene 113 = .ok (.aload_n 0, 1) := by decide +kernel
theorem dX7_scene_114 : decode cX7_scene 114 = .ok (.getfield 7, 3) := by decide +kernel
theorem dX7_scene_117 : decode cX7_scene 117 = .ok (.iload 4, 2) := by decide +kernel
theorem dX7_scene_119 : decode cX7_scene 119 = .ok (.iconst 4, 1) := by decide +kernel
theorem dX7_scene_120 : decode cX7_scene 120 = .ok (.iadd, 1) := by decide +kernel
theorem dX7_scene_121 : decode cX7_scene 121 = .ok (.iconst (-1), 1) := by decide +kernel
theorem dX7_scene_122 : decode cX7_scene 122 = .ok (.iastore, 1) := by decide +kernel
theorem dX7_scene_123 : decode cX7_scene 123 = .ok (.aload_n 0, 1) := by decide +kernel
theorem dX7_scene_124 : decode cX7_scene 124 = .ok (.getfield 7, 3) := by decide +kernel
theorem dX7_scene_127 : decode cX7_scene 127 = .ok (.iconst 4, 1) := by decide +kernel
theorem dX7_scene_128 : decode cX7_scene 128 = .ok (.dup2, 1) := by decide +kernel
theorem dX7_scene_129 : decode cX7_scene 129 = .ok (.iaload, 1) := by decide +kernel
theorem dX7_scene_130 : decode cX7_scene 130 = .ok (.iconst 1, 1) := by decide +kernel
theorem dX7_scene_131 : decode cX7_scene 131 = .ok (.iadd, 1) := by decide +kernel
theorem dX7_scene_132 : decode cX7_scene 132 = .ok (.iastore, 1) := by decide +kernel
theorem dX7_scene_133 : decode cX7_scene 133 = .ok (.aload_n 0, 1) := by decide +kernel
theorem dX7_scene_134 : decode cX7_scene 134 = .ok (.getfield 7, 3) := by decide +kernel
theorem dX7_scene_137 : decode cX7_scene 137 = .ok (.iconst 4, 1) := by decide +kernel
theorem dX7_scene_138 : decode cX7_scene 138 = .ok (.iaload, 1) := by decide +kernel
theorem dX7_scene_139 : decode cX7_scene 139 = .ok (.iconst 1, 1) := by decide +kernel
theorem dX7_scene_140 : decode cX7_scene 140 = .ok (.isub, 1) := by decide +kernel
theorem dX7_scene_141 : decode cX7_scene 141 = .ok (.ireturn, 1) := by decide +kernel
theorem dX7_shoot_0 : decode cX7_shoot 0 = .ok (.aload_n 0, 1) := by decide +kernel
theorem dX7_shoot_1 : decode cX7_shoot 1 = .ok (.iconst 0, 1) := by decide +kernel
theorem dX7_shoot_2 : decode cX7_shoot 2 = .ok (.putfield 22, 3) := by decide +kernel
theorem dX7_shoot_5 : decode cX7_shoot 5 = .ok (.aload_n 0, 1) := by decide +kernel
theorem dX7_shoot_6 : decode cX7_shoot 6 = .ok (.iload_n 1, 1) := by decide +kernel
theorem dX7_shoot_7 : decode cX7_shoot 7 = .ok (.invokevirtual 115, 3) := by decide +kernel
theorem dX7_shoot_10 : decode cX7_shoot 10 = .ok (.ifCond .eq 10, 3) := by decide +kernel
theorem dX7_shoot_13 : decode cX7_shoot 13 = .ok (.iload_n 2, 1) := by decide +kernel
theorem dX7_shoot_14 : decode cX7_shoot 14 = .ok (.invokestatic 90, 3) := by decide +kernel
theorem dX7_shoot_17 : decode cX7_shoot 17 = .ok (.ifCond .ne 9, 3) := by decide +kernel
theorem dX7_shoot_20 : decode cX7_shoot 20 = .ok (.aload_n 0, 1) := by decide +kernel
theorem dX7_shoot_21 : decode cX7_shoot 21 = .ok (.iconst 1, 1) := by decide +kernel
theorem dX7_shoot_22 : decode cX7_shoot 22 = .ok (.invokevirtual 33, 3) := by decide +kernel
theorem dX7_shoot_25 : decode cX7_shoot 25 = .ok (.ireturn, 1) := by decide +kernel
theorem dX7_shoot_26 : decode cX7_shoot 26 = .ok (.aload_n 0, 1) := by decide +kernel
theorem dX7_shoot_27 : decode cX7_shoot 27 = .ok (.iload_n 1, 1) := by decide +kernel
theorem dX7_shoot_28 : decode cX7_shoot 28 = .ok (.iload_n 2, 1) := by decide +kernel
theorem dX7_shoot_29 : decode cX7_shoot 29 = .ok (.aload_n 0, 1) := by decide +kernel
theorem dX7_shoot_30 : decode cX7_shoot 30 = .ok (.getfield 7, 3) := by decide +kernel
theorem dX7_shoot_33 : decode cX7_shoot 33 = .ok (.iconst 0, 1) := by decide +kernel
theorem dX7_shoot_34 : decode cX7_shoot 34 = .ok (.iaload, 1) := by decide +kernel
theorem dX7_shoot_35 : decode cX7_shoot 35 = .ok (.invokevirtual 87, 3) := by decide +kernel
theorem dX7_shoot_38 : decode cX7_shoot 38 = .ok (.ifCond .eq 9, 3) := by decide +kernel
theorem dX7_shoot_41 : decode cX7_shoot 41 = .ok (.aload_n 0, 1) := by decide +kernel
theorem dX7_shoot_42 : decode cX7_shoot 42 = .ok (.iconst 2, 1) := by decide +kernel
theorem dX7_shoot_43 : decode cX7_shoot 43 = .ok (.invokevirtual 33, 3) := by decide +kernel
theorem dX7_shoot_46 : decode cX7_shoot 46 = .ok (.ireturn, 1) := by decide +kernel
theorem dX7_shoot_47 : decode cX7_shoot 47 = .ok (.aload_n 0, 1) := by decide +kernel
theorem dX7_shoot_48 : decode cX7_shoot 48 = .ok (.invokevirtual 94, 3) := by decide +kernel
theorem dX7_shoot_51 : decode cX7_shoot 51 = .ok (.aload_n 0, 1) := by decide +kernel
theorem dX7_shoot_52 : decode cX7_shoot 52 = .ok (.iload_n 1, 1) := by decide +kernel
theorem dX7_shoot_53 : decode cX7_shoot 53 = .ok (.iload_n 2, 1) := by decide +kernel
theorem dX7_shoot_54 : decode cX7_shoot 54 = .ok (.invokevirtual 118, 3) := by decide +kernel
theorem dX7_shoot_57 : decode cX7_shoot 57 = .ok (.ireturn, 1) := by decide +kernel
theorem dX7_append_0 : decode cX7_append 0 = .ok (.aload_n 0, 1) := by decide +kernel
theorem dX7_append_1 : decode cX7_append 1 = .ok (.iconst 0, 1) := by decide +kernel
theorem dX7_append_2 : decode cX7_append 2 = .ok (.putfield 22, 3) := by decide +kernel
theorem dX7_append_5 : decode cX7_append 5 = .ok (.iload_n 1, 1) := by decide +kernel
theorem dX7_append_6 : decode cX7_append 6 = .ok (.bipush 33, 2) := by decide +kernel
theorem dX7_append_8 : decode cX7_append 8 = .ok (.bipush 126, 2) := by decide +kernel
theorem dX7_append_10 : decode cX7_append 10 = .ok (.invokestatic 26, 3) := by decide +kernel
theorem dX7_append_13 : decode cX7_append 13 = .ok (.ifCond .ne 9, 3) := by decide +kernel
theorem dX7_append_16 : decode cX7_append 16 = .ok (.aload_n 0, 1) := by decide +kernel
theorem dX7_append_17 : decode cX7_append 17 = .ok (.iconst 1, 1) := by decide +kernel
theorem dX7_append_18 : decode cX7_append 18 = .ok (.invokevirtual 33, 3) := by decide +kernel
theorem dX7_append_21 : decode cX7_append 21 = .ok (.ireturn, 1) := by decide +kernel
theorem dX7_append_22 : decode cX7_append 22 = .ok (.aload_n 0, 1) := by decide +kernel
theorem dX7_append_23 : decode cX7_append 23 = .ok (.getfield 121, 3) := by decide +kernel
theorem dX7_append_26 : decode cX7_append 26 = .ok (.bipush 60, 2) := by decide +kernel
theorem dX7_append_28 : decode cX7_append 28 = .ok (.if_icmp .ne 9, 3) := by decide +kernel
theorem dX7_append_31 : decode cX7_append 31 = .ok (.aload_n 0, 1) := by decide +kernel
theorem dX7_append_32 : decode cX7_append 32 = .ok (.iconst 2, 1) := by decide +kernel
theorem dX7_append_33 : decode cX7_append 33 = .ok (.invokevirtual 33, 3) := by decide +kernel
theorem dX7_append_36 : decode cX7_append 36 = .ok (.ireturn, 1) := by decide +kernel
theorem dX7_append_37 : decode cX7_append 37 = .ok (.aload_n 0, 1) := by decide +kernel
theorem dX7_append_38 : decode cX7_append 38 = .ok (.getfield 16, 3) := by decide +kernel
theorem dX7_append_41 : decode cX7_append 41 = .ok (.aload_n 0, 1) := by decide +kernel
theorem dX7_append_42 : decode cX7_append 42 = .ok (.getfield 121, 3) := by decide +kernel
theorem dX7_append_45 : decode cX7_append 45 = .ok (.iload_n 1, 1) := by decide +kernel
theorem dX7_append_46 : decode cX7_append 46 = .ok (.iastore, 1) := by decide +kernel
theorem dX7_append_47 : decode cX7_append 47 = .ok (.aload_n 0, 1) := by decide +kernel
theorem dX7_append_48 : decode cX7_append 48 = .ok (.dup, 1) := by decide +kernel
theorem dX7_append_49 : decode cX7_append 49 = .ok (.getfield 121, 3) := by decide +kernel
theorem dX7_append_52 : decode cX7_append 52 = .ok (.iconst 1, 1) := by decide +kernel
theorem dX7_append_53 : decode cX7_append 53 = .ok (.iadd, 1) := by decide +kernel
theorem dX7_append_54 : decode cX7_append 54 = .ok (.putfield 121, 3) := by decide +kernel
theorem dX7_append_57 : decode cX7_append 57 = .ok (.aload_n 0, 1) := by decide +kernel
theorem dX7_append_58 : decode cX7_append 58 = .ok (.getfield 121, 3) := by decide +kernel
theorem dX7_append_61 : decode cX7_append 61 = .ok (.ireturn, 1) := by decide +kernel
theorem dX7_clearBuffer_0 : decode cX7_clearBuffer 0 = .ok (.aload_n 0, 1) := by decide +kernel
theorem dX7_clearBuffer_1 : decode cX7_clearBuffer 1 = .ok (.iconst 0, 1) := by decide +kernel
theorem dX7_clearBuffer_2 : decode cX7_clearBuffer 2 = .ok (.putfield 22, 3) := by decide +kernel
theorem dX7_clearBuffer_5 : decode cX7_clearBuffer 5 = .ok (.aload_n 0, 1) := by decide +kernel
theorem dX7_clearBuffer_6 : decode cX7_clearBuffer 6 = .ok (.getfield 121, 3) := by decide +kernel
theorem dX7_clearBuffer_9 : decode cX7_clearBuffer 9 = .ok (.istore_n 1, 1) := by decide +kernel
theorem dX7_clearBuffer_10 : decode cX7_clearBuffer 10 = .ok (.aload_n 0, 1) := by decide +kernel
theorem dX7_clearBuffer_11 : decode cX7_clearBuffer 11 = .ok (.iconst 0, 1) := by decide +kernel
theorem dX7_clearBuffer_12 : decode cX7_clearBuffer 12 = .ok (.putfield 121, 3) := by decide +kernel
theorem dX7_clearBuffer_15 : decode cX7_clearBuffer 15 = .ok (.iload_n 1, 1) := by decide +kernel
theorem dX7_clearBuffer_16 : decode cX7_clearBuffer 16 = .ok (.ireturn, 1) := by decide +kernel
theorem dX7_next_0 : decode cX7_next 0 = .ok (.aload_n 0, 1) := by decide +kernel
theorem dX7_next_1 : decode cX7_next 1 = .ok (.getfield 124, 3) := by decide +kernel
theorem dX7_next_4 : decode cX7_next 4 = .ok (.aload_n 0, 1) := by decide +kernel
theorem dX7_next_5 : decode cX7_next 5 = .ok (.getfield 121, 3) := by decide +kernel
theorem dX7_next_8 : decode cX7_next 8 = .ok (.if_icmp .ge 15, 3) := by decide +kernel
theorem dX7_next_11 : decode cX7_next 11 = .ok (.aload_n 0, 1) := by decide +kernel
theorem dX7_next_12 : decode cX7_next 12 = .ok (.getfield 16, 3) := by decide +kernel
theorem dX7_next_15 : decode cX7_next 15 = .ok (.aload_n 0, 1) := by decide +kernel
theorem dX7_next_16 : decode cX7_next 16 = .ok (.getfield 124, 3) := by decide +kernel
theorem dX7_next_19 : decode cX7_next 19 = .ok (.iaload, 1) := by decide +kernel
theorem dX7_next_20 : decode cX7_next 20 = .ok (.goto 4, 3) := by decide +kernel
theorem dX7_next_23 : decode cX7_next 23 = .ok (.iconst 0, 1) := by decide +kernel
theorem dX7_next_24 : decode cX7_next 24 = .ok (.ireturn, 1) := by decide +kernel
theorem dX7_takes_0 : decode cX7_takes 0 = .ok (.aload_n 0, 1) := by decide +kernel
theorem dX7_takes_1 : decode cX7_takes 1 = .ok (.invokevirtual 127, 3) := by decide +kernel
theorem dX7_takes_4 : decode cX7_takes 4 = .ok (.iload_n 1, 1) := by decide +kernel
theorem dX7_takes_5 : decode cX7_takes 5 = .ok (.if_icmp .ne 7, 3) := by decide +kernel
theorem dX7_takes_8 : decode cX7_takes 8 = .ok (.iconst 1, 1) := by decide +kernel
theorem dX7_takes_9 : decode cX7_takes 9 = .ok (.goto 4, 3) := by decide +kernel
theorem dX7_takes_12 : decode cX7_takes 12 = .ok (.iconst 0, 1) := by decide +kernel
theorem dX7_takes_13 : decode cX7_takes 13 = .ok (.istore_n 2, 1) := by decide +kernel
theorem dX7_takes_14 : decode cX7_takes 14 = .ok (.aload_n 0, 1) := by decide +kernel
theorem dX7_takes_15 : decode cX7_takes 15 = .ok (.dup, 1) := by decide +kernel
theorem dX7_takes_16 : decode cX7_takes 16 = .ok (.getfield 124, 3) := by decide +kernel
theorem dX7_takes_19 : decode cX7_takes 19 = .ok (.iload_n 2, 1) := by decide +kernel
theorem dX7_takes_20 : decode cX7_takes 20 = .ok (.ifCond .eq 7, 3) := by decide +kernel
theorem dX7_takes_23 : decode cX7_takes 23 = .ok (.iconst 1, 1) := by decide +kernel
theorem dX7_takes_24 : decode cX7_takes 24 = .ok (.goto 4, 3) := by decide +kernel
theorem dX7_takes_27 : decode cX7_takes 27 = .ok (.iconst 0, 1) := by decide +kernel
theorem dX7_takes_28 : decode cX7_takes 28 = .ok (.iadd, 1) := by decide +kernel
theorem dX7_takes_29 : decode cX7_takes 29 = .ok (.putfield 124, 3) := by decide +kernel
theorem dX7_takes_32 : decode cX7_takes 32 = .ok (.iload_n 2, 1) := by decide +kernel
theorem dX7_takes_33 : decode cX7_takes 33 = .ok (.ireturn, 1) := by decide +kernel
theorem dX7_readsDigit_0 : decode cX7_readsDigit 0 = .ok (.aload_n 0, 1) := by decide +kernel
theorem dX7_readsDigit_1 : decode cX7_readsDigit 1 = .ok (.invokevirtual 127, 3) := by decide +kernel
theorem dX7_readsDigit_4 : decode cX7_readsDigit 4 = .ok (.bipush 48, 2) := by decide +kernel
theorem dX7_readsDigit_6 : decode cX7_readsDigit 6 = .ok (.isub, 1) := by decide +kernel
theorem dX7_readsDigit_7 : decode cX7_readsDigit 7 = .ok (.istore 4, 2) := by decide +kernel
theorem dX7_readsDigit_9 : decode cX7_readsDigit 9 = .ok (.iload 4, 2) := by decide +kernel
theorem dX7_readsDigit_11 : decode cX7_readsDigit 11 = .ok (.iload_n 2, 1) := by decide +kernel
theorem dX7_readsDigit_12 : decode cX7_readsDigit 12 = .ok (.iload_n 3, 1) := by decide +kernel
theorem dX7_readsDigit_13 : decode cX7_readsDigit 13 = .ok (.invokestatic 26, 3) := by decide +kernel
theorem dX7_readsDigit_16 : decode cX7_readsDigit 16 = .ok (.istore 5, 2) := by decide +kernel
theorem dX7_readsDigit_18 : decode cX7_readsDigit 18 = .ok (.aload_n 0, 1) := by decide +kernel
theorem dX7_readsDigit_19 : decode cX7_readsDigit 19 = .ok (.getfield 19, 3) := by decide +kernel
theorem dX7_readsDigit_22 : decode cX7_readsDigit 22 = .ok (.iload_n 1, 1) := by decide +kernel
theorem dX7_readsDigit_23 : decode cX7_readsDigit 23 = .ok (.iload 4, 2) := by decide +kernel
theorem dX7_readsDigit_25 : decode cX7_readsDigit 25 = .ok (.iastore, 1) := by decide +kernel
theorem dX7_readsDigit_26 : decode cX7_readsDigit 26 = .ok (.aload_n 0, 1) := by decide +kernel
theorem dX7_readsDigit_27 : decode cX7_readsDigit 27 = .ok (.dup, 1) := by decide +kernel
theorem dX7_readsDigit_28 : decode cX7_readsDigit 28 = .ok (.getfield 124, 3) := by decide +kernel
theorem dX7_readsDigit_31 : decode cX7_readsDigit 31 = .ok (.iload 5, 2) := by decide +kernel
theorem dX7_readsDigit_33 : decode cX7_readsDigit 33 = .ok (.ifCond .eq 7, 3) := by decide +kernel
theorem dX7_readsDigit_36 : decode cX7_readsDigit 36 = .ok (.iconst 1, 1) := by decide +kernel
theorem dX7_readsDigit_37 : decode cX7_readsDigit 37 = .ok (.goto 4, 3) := by decide +kernel
theorem dX7_readsDigit_40 : decode cX7_readsDigit 40 = .ok (.iconst 0, 1) := by decide +kernel
theorem dX7_readsDigit_41 : decode cX7_readsDigit 41 = .ok (.iadd, 1) := by decide +kernel
theorem dX7_readsDigit_42 : decode cX7_readsDigit 42 = .ok (.putfield 124, 3) := by decide +kernel
theorem dX7_readsDigit_45 : decode cX7_readsDigit 45 = .ok (.iload 5, 2) := by decide +kernel
theorem dX7_readsDigit_47 : decode cX7_readsDigit 47 = .ok (.ireturn, 1) := by decide +kernel
theorem dX7_readsDays_0 : decode cX7_readsDays 0 = .ok (.aload_n 0, 1) := by decide +kernel
theorem dX7_readsDays_1 : decode cX7_readsDays 1 = .ok (.iconst 0, 1) := by decide +kernel
theorem dX7_readsDays_2 : decode cX7_readsDays 2 = .ok (.iconst 1, 1) := by decide +kernel
theorem dX7_readsDays_3 : decode cX7_readsDays 3 = .ok (.bipush 9, 2) := by decide +kernel
theorem dX7_readsDays_5 : decode cX7_readsDays 5 = .ok (.invokevirtual 131, 3) := by decide +kernel
theorem dX7_readsDays_8 : decode cX7_readsDays 8 = .ok (.ifCond .ne 5, 3) := by decide +kernel
theorem dX7_readsDays_11 : decode cX7_readsDays 11 = .ok (.iconst 0, 1) := by decide +kernel
theorem dX7_readsDays_12 : decode cX7_readsDays 12 = .ok (.ireturn, 1) := by decide +kernel
theorem dX7_readsDays_13 : decode cX7_readsDays 13 = .ok (.aload_n 0, 1) := by decide +kernel
theorem dX7_readsDays_14 : decode cX7_readsDays 14 = .ok (.invokevirtual 127, 3) := by decide +kernel
theorem dX7_readsDays_17 : decode cX7_readsDays 17 = .ok (.bipush 48, 2) := by decide +kernel
theorem dX7_readsDays_19 : decode cX7_readsDays 19 = .ok (.bipush 57, 2) := by decide +kernel
theorem dX7_readsDays_21 : decode cX7_readsDays 21 = .ok (.invokestatic 26, 3) := by decide +kernel
theorem dX7_readsDays_24 : decode cX7_readsDays 24 = .ok (.ifCond .eq 36, 3) := by decide +kernel
theorem dX7_readsDays_27 : decode cX7_readsDays 27 = .ok (.aload_n 0, 1) := by decide +kernel
theorem dX7_readsDays_28 : decode cX7_readsDays 28 = .ok (.getfield 19, 3) := by decide +kernel
theorem dX7_readsDays_31 : decode cX7_readsDays 31 = .ok (.iconst 0, 1) := by decide +kernel
theorem dX7_readsDays_32 : decode cX7_readsDays 32 = .ok (.bipush 10, 2) := by decide +kernel
theorem dX7_readsDays_34 : decode cX7_readsDays 34 = .ok (.aload_n 0, 1) := by decide +kernel
theorem dX7_readsDays_35 : decode cX7_readsDays 35 = .ok (.getfield 19, 3) := by decide +kernel
theorem dX7_readsDays_38 : decode cX7_readsDays 38 = .ok (.iconst 0, 1) := by decide +kernel
theorem dX7_readsDays_39 : decode cX7_readsDays 39 = .ok (.iaload, 1) := by decide +kernel
theorem dX7_readsDays_40 : decode cX7_readsDays 40 = .ok (.imul, 1) := by decide +kernel
theorem dX7_readsDays_41 : decode cX7_readsDays 41 = .ok (.aload_n 0, 1) := by decide +kernel
theorem dX7_readsDays_42 : decode cX7_readsDays 42 = .ok (.invokevirtual 127, 3) := by decide +kernel
theorem dX7_readsDays_45 : decode cX7_readsDays 45 = .ok (.iadd, 1) := by decide +kernel
theorem dX7_readsDays_46 : decode cX7_readsDays 46 = .ok (.bipush 48, 2) := by decide +kernel
theorem dX7_readsDays_48 : decode cX7_readsDays 48 = .ok (.isub, 1) := by decide +kernel
theorem dX7_readsDays_49 : decode cX7_readsDays 49 = .ok (.iastore, 1) := by decide +kernel
theorem dX7_readsDays_50 : decode cX7_readsDays 50 = .ok (.aload_n 0, 1) := by decide +kernel
theorem dX7_readsDays_51 : decode cX7_readsDays 51 = .ok (.dup, 1) := by decide +kernel
theorem dX7_readsDays_52 : decode cX7_readsDays 52 = .ok (.getfield 124, 3) := by decide +kernel
theorem dX7_readsDays_55 : decode cX7_readsDays 55 = .ok (.iconst 1, 1) := by decide +kernel
theorem dX7_readsDays_56 : decode cX7_readsDays 56 = .ok (.iadd, 1) := by decide +kernel
theorem dX7_readsDays_57 : decode cX7_readsDays 57 = .ok (.putfield 124, 3) := by decide +kernel
theorem dX7_readsDays_60 : decode cX7_readsDays 60 = .ok (.iconst 1, 1) := by decide +kernel
theorem dX7_readsDays_61 : decode cX7_readsDays 61 = .ok (.ireturn, 1) := by decide +kernel
theorem dX7_readsPart_0 : decode cX7_readsPart 0 = .ok (.aload_n 0, 1) := by decide +kernel
theorem dX7_readsPart_1 : decode cX7_readsPart 1 = .ok (.bipush 43, 2) := by decide +kernel
theorem dX7_readsPart_3 : decode cX7_readsPart 3 = .ok (.invokevirtual 134, 3) := by decide +kernel
theorem dX7_readsPart_6 : decode cX7_readsPart 6 = .ok (.ifCond .eq 8, 3) := by decide +kernel
theorem dX7_readsPart_9 : decode cX7_readsPart 9 = .ok (.aload_n 0, 1) := by decide +kernel
theorem dX7_readsPart_10 : decode cX7_readsPart 10 = .ok (.invokevirtual 137, 3) := by decide +kernel
theorem dX7_readsPart_13 : decode cX7_readsPart 13 = .ok (.ireturn, 1) := by decide +kernel
theorem dX7_readsPart_14 : decode cX7_readsPart 14 = .ok (.aload_n 0, 1) := by decide +kernel
theorem dX7_readsPart_15 : decode cX7_readsPart 15 = .ok (.bipush 33, 2) := by decide +kernel
theorem dX7_readsPart_17 : decode cX7_readsPart 17 = .ok (.invokevirtual 134, 3) := by decide +kernel
theorem dX7_readsPart_20 : decode cX7_readsPart 20 = .ok (.ifCond .eq 31, 3) := by decide +kernel
theorem dX7_readsPart_23 : decode cX7_readsPart 23 = .ok (.aload_n 0, 1) := by decide +kernel
theorem dX7_readsPart_24 : decode cX7_readsPart 24 = .ok (.iconst 0, 1) := by decide +kernel
theorem dX7_readsPart_25 : decode cX7_readsPart 25 = .ok (.iconst 0, 1) := by decide +kernel
theorem dX7_readsPart_26 : decode cX7_readsPart 26 = .ok (.bipush 9, 2) := by decide +kernel
theorem dX7_readsPart_28 : decode cX7_readsPart 28 = .ok (.invokevirtual 131, 3) := by decide +kernel
theorem dX7_readsPart_31 : decode cX7_readsPart 31 = .ok (.ifCond .eq 18, 3) := by decide +kernel
theorem dX7_readsPart_34 : decode cX7_readsPart 34 = .ok (.aload_n 0, 1) := by decide +kernel
theorem dX7_readsPart_35 : decode cX7_readsPart 35 = .ok (.iconst 1, 1) := by decide +kernel
theorem dX7_readsPart_36 : decode cX7_readsPart 36 = .ok (.iconst 0, 1) := by decide +kernel
theorem dX7_readsPart_37 : decode cX7_readsPart 37 = .ok (.bipush 7, 2) := by decide +kernel
theorem dX7_readsPart_39 : decode cX7_readsPart 39 = .ok (.invokevirtual 131, 3) := by decide +kernel
theorem dX7_readsPart_42 : decode cX7_readsPart 42 = .ok (.ifCond .eq 7, 3) := by decide +kernel
theorem dX7_readsPart_45 : decode cX7_readsPart 45 = .ok (.iconst 1, 1) := by decide +kernel
theorem dX7_readsPart_46 : decode cX7_readsPart 46 = .ok (.goto 4, 3) := by decide +kernel
theorem dX7_readsPart_49 : decode cX7_readsPart 49 = .ok (.iconst 0, 1) := by decide +kernel
theorem dX7_readsPart_50 : decode cX7_readsPart 50 = .ok (.ireturn, 1) := by decide +kernel
theorem dX7_readsPart_51 : decode cX7_readsPart 51 = .ok (.aload_n 0, 1) := by decide +kernel
theorem dX7_readsPart_52 : decode cX7_readsPart 52 = .ok (.iconst 0, 1) := by decide +kernel
theorem dX7_readsPart_53 : decode cX7_readsPart 53 = .ok (.iconst 0, 1) := by decide +kernel
theorem dX7_readsPart_54 : decode cX7_readsPart 54 = .ok (.bipush 7, 2) := by decide +kernel
theorem dX7_readsPart_56 : decode cX7_readsPart 56 = .ok (.invokevirtual 131, 3) := by decide +kernel
theorem dX7_readsPart_59 : decode cX7_readsPart 59 = .ok (.ifCond .eq 36, 3) := by decide +kernel
theorem dX7_readsPart_62 : decode cX7_readsPart 62 = .ok (.aload_n 0, 1) := by decide +kernel
theorem dX7_readsPart_63 : decode cX7_readsPart 63 = .ok (.bipush 114, 2) := by decide +kernel
theorem dX7_readsPart_65 : decode cX7_readsPart 65 = .ok (.invokevirtual 134, 3) := by decide +kernel
theorem dX7_readsPart_68 : decode cX7_readsPart 68 = .ok (.ifCond .eq 27, 3) := by decide +kernel
theorem dX7_readsPart_71 : decode cX7_readsPart 71 = .ok (.aload_n 0, 1) := by decide +kernel
theorem dX7_readsPart_72 : decode cX7_readsPart 72 = .ok (.iconst 1, 1) := by decide +kernel
theorem dX7_readsPart_73 : decode cX7_readsPart 73 = .ok (.iconst 0, 1) := by decide +kernel
theorem dX7_readsPart_74 : decode cX7_readsPart 74 = .ok (.iconst 5, 1) := by decide +kernel
theorem dX7_readsPart_75 : decode cX7_readsPart 75 = .ok (.invokevirtual 131, 3) := by decide +kernel
theorem dX7_readsPart_78 : decode cX7_readsPart 78 = .ok (.ifCond .eq 17, 3) := by decide +kernel
theorem dX7_readsPart_81 : decode cX7_readsPart 81 = .ok (.aload_n 0, 1) := by decide +kernel
theorem dX7_readsPart_82 : decode cX7_readsPart 82 = .ok (.iconst 2, 1) := by decide +kernel
theorem dX7_readsPart_83 : decode cX7_readsPart 83 = .ok (.iconst 1, 1) := by decide +kernel
theorem dX7_readsPart_84 : decode cX7_readsPart 84 = .ok (.iconst 5, 1) := by decide +kernel
theorem dX7_readsPart_85 : decode cX7_readsPart 85 = .ok (.invokevirtual 131, 3) := by decide +kernel
theorem dX7_readsPart_88 : decode cX7_readsPart 88 = .ok (.ifCond .eq 7, 3) := by decide +kernel
theorem dX7_readsPart_91 : decode cX7_readsPart 91 = .ok (.iconst 1, 1) := by decide +kernel
theorem dX7_readsPart_92 : decode cX7_readsPart 92 = .ok (.goto 4, 3) := by decide +kernel
theorem dX7_readsPart_95 : decode cX7_readsPart 95 = .ok (.iconst 0, 1) := by decide +kernel
theorem dX7_readsPart_96 : decode cX7_readsPart 96 = .ok (.ireturn, 1) := by decide +kernel
theorem dX7_findError_0 : decode cX7_findError 0 = .ok (.aload_n 0, 1) := by decide +kernel
theorem dX7_findError_1 : decode cX7_findError 1 = .ok (.iconst 0, 1) := by decide +kernel
theorem dX7_findError_2 : decode cX7_findError 2 = .ok (.putfield 124, 3) := by decide +kernel
theorem dX7_findError_5 : decode cX7_findError 5 = .ok (.aload_n 0, 1) := by decide +kernel
theorem dX7_findError_6 : decode cX7_findError 6 = .ok (.invokevirtual 141, 3) := by decide +kernel
theorem dX7_findError_9 : decode cX7_findError 9 = .ok (.ifCond .eq 30, 3) := by decide +kernel
theorem dX7_findError_12 : decode cX7_findError 12 = .ok (.aload_n 0, 1) := by decide +kernel
theorem dX7_findError_13 : decode cX7_findError 13 = .ok (.getfield 124, 3) := by decide +kernel
theorem dX7_findError_16 : decode cX7_findError 16 = .ok (.aload_n 0, 1) := by decide +kernel
theorem dX7_findError_17 : decode cX7_findError 17 = .ok (.getfield 121, 3) := by decide +kernel
theorem dX7_findError_20 : decode cX7_findError 20 = .ok (.if_icmp .ne 5, 3) := by decide +kernel
theorem dX7_findError_23 : decode cX7_findError 23 = .ok (.iconst (-1), 1) := by decide +kernel
theorem dX7_findError_24 : decode cX7_findError 24 = .ok (.ireturn, 1) := by decide +kernel
theorem dX7_findError_25 : decode cX7_findError 25 = .ok (.aload_n 0, 1) := by decide +kernel
theorem dX7_findError_26 : decode cX7_findError 26 = .ok (.bipush 59, 2) := by decide +kernel
theorem dX7_findError_28 : decode cX7_findError 28 = .ok (.invokevirtual 134, 3) := by decide +kernel
theorem dX7_findError_31 : decode cX7_findError 31 = .ok (.ifCond .ne (-26), 3) := by decide +kernel
theorem dX7_findError_34 : decode cX7_findError 34 = .ok (.aload_n 0, 1) := by decide +kernel
theorem dX7_findError_35 : decode cX7_findError 35 = .ok (.getfield 124, 3) := by decide +kernel
theorem dX7_findError_38 : decode cX7_findError 38 = .ok (.ireturn, 1) := by decide +kernel
theorem dX7_findError_39 : decode cX7_findError 39 = .ok (.aload_n 0, 1) := by decide +kernel
theorem dX7_findError_40 : decode cX7_findError 40 = .ok (.getfield 124, 3) := by decide +kernel
theorem dX7_findError_43 : decode cX7_findError 43 = .ok (.ireturn, 1) := by decide +kernel
theorem dX7_firstError_0 : decode cX7_firstError 0 = .ok (.aload_n 0, 1) := by decide +kernel
theorem dX7_firstError_1 : decode cX7_firstError 1 = .ok (.iconst 0, 1) := by decide +kernel
theorem dX7_firstError_2 : decode cX7_firstError 2 = .ok (.putfield 22, 3) := by decide +kernel
theorem dX7_firstError_5 : decode cX7_firstError 5 = .ok (.aload_n 0, 1) := by decide +kernel
theorem dX7_firstError_6 : decode cX7_firstError 6 = .ok (.invokevirtual 144, 3) := by decide +kernel
theorem dX7_firstError_9 : decode cX7_firstError 9 = .ok (.istore_n 1, 1) := by decide +kernel
theorem dX7_firstError_10 : decode cX7_firstError 10 = .ok (.iload_n 1, 1) := by decide +kernel
theorem dX7_firstError_11 : decode cX7_firstError 11 = .ok (.iconst (-1), 1) := by decide +kernel
theorem dX7_firstError_12 : decode cX7_firstError 12 = .ok (.if_icmp .ne 10, 3) := by decide +kernel
theorem dX7_firstError_15 : decode cX7_firstError 15 = .ok (.aload_n 0, 1) := by decide +kernel
theorem dX7_firstError_16 : decode cX7_firstError 16 = .ok (.getfield 121, 3) := by decide +kernel
theorem dX7_firstError_19 : decode cX7_firstError 19 = .ok (.goto 4, 3) := by decide +kernel
theorem dX7_firstError_22 : decode cX7_firstError 22 = .ok (.iload_n 1, 1) := by decide +kernel
theorem dX7_firstError_23 : decode cX7_firstError 23 = .ok (.ireturn, 1) := by decide +kernel
theorem dX7_doesPart_0 : decode cX7_doesPart 0 = .ok (.iload_n 1, 1) := by decide +kernel
theorem dX7_doesPart_1 : decode cX7_doesPart 1 = .ok (.bipush 43, 2) := by decide +kernel
theorem dX7_doesPart_3 : decode cX7_doesPart 3 = .ok (.if_icmp .ne 51, 3) := by decide +kernel
theorem dX7_doesPart_6 : decode cX7_doesPart 6 = .ok (.aload_n 0, 1) := by decide +kernel
theorem dX7_doesPart_7 : decode cX7_doesPart 7 = .ok (.getfield 7, 3) := by decide +kernel
theorem dX7_doesPart_10 : decode cX7_doesPart 10 = .ok (.iconst 0, 1) := by decide +kernel
theorem dX7_doesPart_11 : decode cX7_doesPart 11 = .ok (.iaload, 1) := by decide +kernel
theorem dX7_doesPart_12 : decode cX7_doesPart 12 = .ok (.aload_n 0, 1) := by decide +kernel
theorem dX7_doesPart_13 : decode cX7_doesPart 13 = .ok (.getfield 19, 3) := by decide +kernel
theorem dX7_doesPart_16 : decode cX7_doesPart 16 = .ok (.iconst 0, 1) := by decide +kernel
theorem dX7_doesPart_17 : decode cX7_doesPart 17 = .ok (.iaload, 1) := by decide +kernel
theorem dX7_doesPart_18 : decode cX7_doesPart 18 = .ok (.iadd, 1) := by decide +kernel
theorem dX7_doesPart_19 : decode cX7_doesPart 19 = .ok (.sipush 999, 3) := by decide +kernel
theorem dX7_doesPart_22 : decode cX7_doesPart 22 = .ok (.if_icmp .gt 7, 3) := by decide +kernel
theorem dX7_doesPart_25 : decode cX7_doesPart 25 = .ok (.iconst 1, 1) := by decide +kernel
theorem dX7_doesPart_26 : decode cX7_doesPart 26 = .ok (.goto 4, 3) := by decide +kernel
theorem dX7_doesPart_29 : decode cX7_doesPart 29 = .ok (.iconst 0, 1) := by decide +kernel
theorem dX7_doesPart_30 : decode cX7_doesPart 30 = .ok (.istore_n 2, 1) := by decide +kernel
theorem dX7_doesPart_31 : decode cX7_doesPart 31 = .ok (.iload_n 2, 1) := by decide +kernel
theorem dX7_doesPart_32 : decode cX7_doesPart 32 = .ok (.ifCond .eq 20, 3) := by decide +kernel
theorem dX7_doesPart_35 : decode cX7_doesPart 35 = .ok (.aload_n 0, 1) := by decide +kernel
theorem dX7_doesPart_36 : decode cX7_doesPart 36 = .ok (.aload_n 0, 1) := by decide +kernel
theorem dX7_doesPart_37 : decode cX7_doesPart 37 = .ok (.getfield 19, 3) := by decide +kernel
theorem dX7_doesPart_40 : decode cX7_doesPart 40 = .ok (.iconst 0, 1) := by decide +kernel
theorem dX7_doesPart_41 : decode cX7_doesPart 41 = .ok (.iaload, 1) := by decide +kernel
theorem dX7_doesPart_42 : decode cX7_doesPart 42 = .ok (.invokevirtual 97, 3) := by decide +kernel
theorem dX7_doesPart_45 : decode cX7_doesPart 45 = .ok (.ifCond .le 7, 3) := by decide +kernel
theorem dX7_doesPart_48 : decode cX7_doesPart 48 = .ok (.iconst 1, 1) := by decide +kernel
theorem dX7_doesPart_49 : decode cX7_doesPart 49 = .ok (.goto 4, 3) := by decide +kernel
theorem dX7_doesPart_52 : decode cX7_doesPart 52 = .ok (.iconst 0, 1) := by decide +kernel
theorem dX7_doesPart_53 : decode cX7_doesPart 53 = .ok (.ireturn, 1) := by decide +kernel
theorem dX7_doesPart_54 : decode cX7_doesPart 54 = .ok (.iload_n 1, 1) := by decide +kernel
theorem dX7_doesPart_55 : decode cX7_doesPart 55 = .ok (.bipush 33, 2) := by decide +kernel
theorem dX7_doesPart_57 : decode cX7_doesPart 57 = .ok (.if_icmp .ne 76, 3) := by decide +kernel
theorem dX7_doesPart_60 : decode cX7_doesPart 60 = .ok (.aload_n 0, 1) := by decide +kernel
theorem dX7_doesPart_61 : decode cX7_doesPart 61 = .ok (.aload_n 0, 1) := by decide +kernel
theorem dX7_doesPart_62 : decode cX7_doesPart 62 = .ok (.getfield 19, 3) := by decide +kernel
theorem dX7_doesPart_65 : decode cX7_doesPart 65 = .ok (.iconst 0, 1) := by decide +kernel
theorem dX7_doesPart_66 : decode cX7_doesPart 66 = .ok (.iaload, 1) := by decide +kernel
theorem dX7_doesPart_67 : decode cX7_doesPart 67 = .ok (.invokevirtual 115, 3) := by decide +kernel
theorem dX7_doesPart_70 : decode cX7_doesPart 70 = .ok (.ifCond .eq 32, 3) := by decide +kernel
theorem dX7_doesPart_73 : decode cX7_doesPart 73 = .ok (.aload_n 0, 1) := by decide +kernel
theorem dX7_doesPart_74 : decode cX7_doesPart 74 = .ok (.aload_n 0, 1) := by decide +kernel
theorem dX7_doesPart_75 : decode cX7_doesPart 75 = .ok (.getfield 19, 3) := by decide +kernel
theorem dX7_doesPart_78 : decode cX7_doesPart 78 = .ok (.iconst 0, 1) := by decide +kernel
theorem dX7_doesPart_79 : decode cX7_doesPart 79 = .ok (.iaload, 1) := by decide +kernel
theorem dX7_doesPart_80 : decode cX7_doesPart 80 = .ok (.aload_n 0, 1) := by decide +kernel
theorem dX7_doesPart_81 : decode cX7_doesPart 81 = .ok (.getfield 19, 3) := by decide +kernel
theorem dX7_doesPart_84 : decode cX7_doesPart 84 = .ok (.iconst 1, 1) := by decide +kernel
theorem dX7_doesPart_85 : decode cX7_doesPart 85 = .ok (.iaload, 1) := by decide +kernel
theorem dX7_doesPart_86 : decode cX7_doesPart 86 = .ok (.aload_n 0, 1) := by decide +kernel
theorem dX7_doesPart_87 : decode cX7_doesPart 87 = .ok (.getfield 7, 3) := by decide +kernel
theorem dX7_doesPart_90 : decode cX7_doesPart 90 = .ok (.iconst 0, 1) := by decide +kernel
theorem dX7_doesPart_91 : decode cX7_doesPart 91 = .ok (.iaload, 1) := by decide +kernel
theorem dX7_doesPart_92 : decode cX7_doesPart 92 = .ok (.invokevirtual 87, 3) := by decide +kernel
theorem dX7_doesPart_95 : decode cX7_doesPart 95 = .ok (.ifCond .ne 7, 3) := by decide +kernel
theorem dX7_doesPart_98 : decode cX7_doesPart 98 = .ok (.iconst 1, 1) := by decide +kernel
theorem dX7_doesPart_99 : decode cX7_doesPart 99 = .ok (.goto 4, 3) := by decide +kernel
theorem dX7_doesPart_102 : decode cX7_doesPart 102 = .ok (.iconst 0, 1) := by decide +kernel
theorem dX7_doesPart_103 : decode cX7_doesPart 103 = .ok (.istore_n 2, 1) := by decide +kernel
theorem dX7_doesPart_104 : decode cX7_doesPart 104 = .ok (.iload_n 2, 1) := by decide +kernel
theorem dX7_doesPart_105 : decode cX7_doesPart 105 = .ok (.ifCond .eq 26, 3) := by decide +kernel
theorem dX7_doesPart_108 : decode cX7_doesPart 108 = .ok (.aload_n 0, 1) := by decide +kernel
theorem dX7_doesPart_109 : decode cX7_doesPart 109 = .ok (.aload_n 0, 1) := by decide +kernel
theorem dX7_doesPart_110 : decode cX7_doesPart 110 = .ok (.getfield 19, 3) := by decide +kernel
theorem dX7_doesPart_113 : decode cX7_doesPart 113 = .ok (.iconst 0, 1) := by decide +kernel
theorem dX7_doesPart_114 : decode cX7_doesPart 114 = .ok (.iaload, 1) := by decide +kernel
theorem dX7_doesPart_115 : decode cX7_doesPart 115 = .ok (.aload_n 0, 1) := by decide +kernel
theorem dX7_doesPart_116 : decode cX7_doesPart 116 = .ok (.getfield 19, 3) := by decide +kernel
theorem dX7_doesPart_119 : decode cX7_doesPart 119 = .ok (.iconst 1, 1) := by decide +kernel
theorem dX7_doesPart_120 : decode cX7_doesPart 120 = .ok (.iaload, 1) := by decide +kernel
theorem dX7_doesPart_121 : decode cX7_doesPart 121 = .ok (.invokevirtual 118, 3) := by decide +kernel
theorem dX7_doesPart_124 : decode cX7_doesPart 124 = .ok (.ifCond .lt 7, 3) := by decide +kernel
theorem dX7_doesPart_127 : decode cX7_doesPart 127 = .ok (.iconst 1, 1) := by decide +kernel
theorem dX7_doesPart_128 : decode cX7_doesPart 128 = .ok (.goto 4, 3) := by decide +kernel
theorem dX7_doesPart_131 : decode cX7_doesPart 131 = .ok (.iconst 0, 1) := by decide +kernel
theorem dX7_doesPart_132 : decode cX7_doesPart 132 = .ok (.ireturn, 1) := by decide +kernel
theorem dX7_doesPart_133 : decode cX7_doesPart 133 = .ok (.aload_n 0, 1) := by decide +kernel
theorem dX7_doesPart_134 : decode cX7_doesPart 134 = .ok (.aload_n 0, 1) := by decide +kernel
theorem dX7_doesPart_135 : decode cX7_doesPart 135 = .ok (.getfield 19, 3) := by decide +kernel
theorem dX7_doesPart_138 : decode cX7_doesPart 138 = .ok (.iconst 0, 1) := by decide +kernel
theorem dX7_doesPart_139 : decode cX7_doesPart 139 = .ok (.iaload, 1) := by decide +kernel
theorem dX7_doesPart_140 : decode cX7_doesPart 140 = .ok (.aload_n 0, 1) := by decide +kernel
theorem dX7_doesPart_141 : decode cX7_doesPart 141 = .ok (.getfield 19, 3) := by decide +kernel
theorem dX7_doesPart_144 : decode cX7_doesPart 144 = .ok (.iconst 1, 1) := by decide +kernel
theorem dX7_doesPart_145 : decode cX7_doesPart 145 = .ok (.iaload, 1) := by decide +kernel
theorem dX7_doesPart_146 : decode cX7_doesPart 146 = .ok (.aload_n 0, 1) := by decide +kernel
theorem dX7_doesPart_147 : decode cX7_doesPart 147 = .ok (.getfield 7, 3) := by decide +kernel
theorem dX7_doesPart_150 : decode cX7_doesPart 150 = .ok (.iconst 0, 1) := by decide +kernel
theorem dX7_doesPart_151 : decode cX7_doesPart 151 = .ok (.iaload, 1) := by decide +kernel
theorem dX7_doesPart_152 : decode cX7_doesPart 152 = .ok (.invokevirtual 47, 3) := by decide +kernel
theorem dX7_doesPart_155 : decode cX7_doesPart 155 = .ok (.ifCond .ne 7, 3) := by decide +kernel
theorem dX7_doesPart_158 : decode cX7_doesPart 158 = .ok (.iconst 1, 1) := by decide +kernel
theorem dX7_doesPart_159 : decode cX7_doesPart 159 = .ok (.goto 4, 3) := by decide +kernel
theorem dX7_doesPart_162 : decode cX7_doesPart 162 = .ok (.iconst 0, 1) := by decide +kernel
theorem dX7_doesPart_163 : decode cX7_doesPart 163 = .ok (.istore_n 2, 1) := by decide +kernel
theorem dX7_doesPart_164 : decode cX7_doesPart 164 = .ok (.iload_n 2, 1) := by decide +kernel
theorem dX7_doesPart_165 : decode cX7_doesPart 165 = .ok (.ifCond .eq 32, 3) := by decide +kernel
theorem dX7_doesPart_168 : decode cX7_doesPart 168 = .ok (.aload_n 0, 1) := by decide +kernel
theorem dX7_doesPart_169 : decode cX7_doesPart 169 = .ok (.aload_n 0, 1) := by decide +kernel
theorem dX7_doesPart_170 : decode cX7_doesPart 170 = .ok (.getfield 19, 3) := by decide +kernel
theorem dX7_doesPart_173 : decode cX7_doesPart 173 = .ok (.iconst 0, 1) := by decide +kernel
theorem dX7_doesPart_174 : decode cX7_doesPart 174 = .ok (.iaload, 1) := by decide +kernel
theorem dX7_doesPart_175 : decode cX7_doesPart 175 = .ok (.aload_n 0, 1) := by decide +kernel
theorem dX7_doesPart_176 : decode cX7_doesPart 176 = .ok (.getfield 19, 3) := by decide +kernel
theorem dX7_doesPart_179 : decode cX7_doesPart 179 = .ok (.iconst 1, 1) := by decide +kernel
theorem dX7_doesPart_180 : decode cX7_doesPart 180 = .ok (.iaload, 1) := by decide +kernel
theorem dX7_doesPart_181 : decode cX7_doesPart 181 = .ok (.aload_n 0, 1) := by decide +kernel
theorem dX7_doesPart_182 : decode cX7_doesPart 182 = .ok (.getfield 19, 3) := by decide +kernel
theorem dX7_doesPart_185 : decode cX7_doesPart 185 = .ok (.iconst 2, 1) := by decide +kernel
theorem dX7_doesPart_186 : decode cX7_doesPart 186 = .ok (.iaload, 1) := by decide +kernel
theorem dX7_doesPart_187 : decode cX7_doesPart 187 = .ok (.invokevirtual 106, 3) := by decide +kernel
theorem dX7_doesPart_190 : decode cX7_doesPart 190 = .ok (.ifCond .lt 7, 3) := by decide +kernel
theorem dX7_doesPart_193 : decode cX7_doesPart 193 = .ok (.iconst 1, 1) := by decide +kernel
theorem dX7_doesPart_194 : decode cX7_doesPart 194 = .ok (.goto 4, 3) := by decide +kernel
theorem dX7_doesPart_197 : decode cX7_doesPart 197 = .ok (.iconst 0, 1) := by decide +kernel
theorem dX7_doesPart_198 : decode cX7_doesPart 198 = .ok (.ireturn, 1) := by decide +kernel
theorem dX7_play_0 : decode cX7_play 0 = .ok (.aload_n 0, 1) := by decide +kernel
theorem dX7_play_1 : decode cX7_play 1 = .ok (.iconst 0, 1) := by decide +kernel
theorem dX7_play_2 : decode cX7_play 2 = .ok (.putfield 22, 3) := by decide +kernel
theorem dX7_play_5 : decode cX7_play 5 = .ok (.aload_n 0, 1) := by decide +kernel
theorem dX7_play_6 : decode cX7_play 6 = .ok (.invokevirtual 144, 3) := by decide +kernel
theorem dX7_play_9 : decode cX7_play 9 = .ok (.iconst (-1), 1) := by decide +kernel
theorem dX7_play_10 : decode cX7_play 10 = .ok (.if_icmp .eq 9, 3) := by decide +kernel
theorem dX7_play_13 : decode cX7_play 13 = .ok (.aload_n 0, 1) := by decide +kernel
theorem dX7_play_14 : decode cX7_play 14 = .ok (.iconst 1, 1) := by decide +kernel
theorem dX7_play_15 : decode cX7_play 15 = .ok (.invokevirtual 33, 3) := by decide +kernel
theorem dX7_play_18 : decode cX7_play 18 = .ok (.ireturn, 1) := by decide +kernel
theorem dX7_play_19 : decode cX7_play 19 = .ok (.aload_n 0, 1) := by decide +kernel
theorem dX7_play_20 : decode cX7_play 20 = .ok (.invokevirtual 94, 3) := by decide +kernel
theorem dX7_play_23 : decode cX7_play 23 = .ok (.aload_n 0, 1) := by decide +kernel
theorem dX7_play_24 : decode cX7_play 24 = .ok (.iconst 0, 1) := by decide +kernel
theorem dX7_play_25 : decode cX7_play 25 = .ok (.putfield 124, 3) := by decide +kernel
theorem dX7_play_28 : decode cX7_play 28 = .ok (.iconst 0, 1) := by decide +kernel
theorem dX7_play_29 : decode cX7_play 29 = .ok (.istore_n 1, 1) := by decide +kernel
theorem dX7_play_30 : decode cX7_play 30 = .ok (.iconst 1, 1) := by decide +kernel
theorem dX7_play_31 : decode cX7_play 31 = .ok (.istore_n 2, 1) := by decide +kernel
theorem dX7_play_32 : decode cX7_play 32 = .ok (.iload_n 2, 1) := by decide +kernel
theorem dX7_play_33 : decode cX7_play 33 = .ok (.ifCond .eq 65, 3) := by decide +kernel
theorem dX7_play_36 : decode cX7_play 36 = .ok (.aload_n 0, 1) := by decide +kernel
theorem dX7_play_37 : decode cX7_play 37 = .ok (.getfield 124, 3) := by decide +kernel
theorem dX7_play_40 : decode cX7_play 40 = .ok (.aload_n 0, 1) := by decide +kernel
theorem dX7_play_41 : decode cX7_play 41 = .ok (.getfield 121, 3) := by decide +kernel
theorem dX7_play_44 : decode cX7_play 44 = .ok (.if_icmp .ge 54, 3) := by decide +kernel
theorem dX7_play_47 : decode cX7_play 47 = .ok (.aload_n 0, 1) := by decide +kernel
theorem dX7_play_48 : decode cX7_play 48 = .ok (.invokevirtual 127, 3) := by decide +kernel
theorem dX7_play_51 : decode cX7_play 51 = .ok (.istore_n 3, 1) := by decide +kernel
theorem dX7_play_52 : decode cX7_play 52 = .ok (.aload_n 0, 1) := by decide +kernel
theorem dX7_play_53 : decode cX7_play 53 = .ok (.invokevirtual 141, 3) := by decide +kernel
theorem dX7_play_56 : decode cX7_play 56 = .ok (.ifCond .eq 15, 3) := by decide +kernel
theorem dX7_play_59 : decode cX7_play 59 = .ok (.aload_n 0, 1) := by decide +kernel
theorem dX7_play_60 : decode cX7_play 60 = .ok (.iload_n 3, 1) := by decide +kernel
theorem dX7_play_61 : decode cX7_play 61 = .ok (.invokevirtual 147, 3) := by decide +kernel
theorem dX7_play_64 : decode cX7_play 64 = .ok (.ifCond .eq 7, 3) := by decide +kernel
theorem dX7_play_67 : decode cX7_play 67 = .ok (.iconst 1, 1) := by decide +kernel
theorem dX7_play_68 : decode cX7_play 68 = .ok (.goto 4, 3) := by decide +kernel
theorem dX7_play_71 : decode cX7_play 71 = .ok (.iconst 0, 1) := by decide +kernel
theorem dX7_play_72 : decode cX7_play 72 = .ok (.istore_n 2, 1) := by decide +kernel
theorem dX7_play_73 : decode cX7_play 73 = .ok (.iload_n 1, 1) := by decide +kernel
theorem dX7_play_74 : decode cX7_play 74 = .ok (.iload_n 2, 1) := by decide +kernel
theorem dX7_play_75 : decode cX7_play 75 = .ok (.ifCond .eq 7, 3) := by decide +kernel
theorem dX7_play_78 : decode cX7_play 78 = .ok (.iconst 1, 1) := by decide +kernel
theorem dX7_play_79 : decode cX7_play 79 = .ok (.goto 4, 3) := by decide +kernel
theorem dX7_play_82 : decode cX7_play 82 = .ok (.iconst 0, 1) := by decide +kernel
theorem dX7_play_83 : decode cX7_play 83 = .ok (.iadd, 1) := by decide +kernel
theorem dX7_play_84 : decode cX7_play 84 = .ok (.istore_n 1, 1) := by decide +kernel
theorem dX7_play_85 : decode cX7_play 85 = .ok (.aload_n 0, 1) := by decide +kernel
theorem dX7_play_86 : decode cX7_play 86 = .ok (.dup, 1) := by decide +kernel
theorem dX7_play_87 : decode cX7_play 87 = .ok (.getfield 124, 3) := by decide +kernel
theorem dX7_play_90 : decode cX7_play 90 = .ok (.iconst 1, 1) := by decide +kernel
theorem dX7_play_91 : decode cX7_play 91 = .ok (.iadd, 1) := by decide +kernel
theorem dX7_play_92 : decode cX7_play 92 = .ok (.putfield 124, 3) := by decide +kernel
theorem dX7_play_95 : decode cX7_play 95 = .ok (.goto (-63), 3) := by decide +kernel
theorem dX7_play_98 : decode cX7_play 98 = .ok (.aload_n 0, 1) := by decide +kernel
theorem dX7_play_99 : decode cX7_play 99 = .ok (.iconst 0, 1) := by decide +kernel
theorem dX7_play_100 : decode cX7_play 100 = .ok (.putfield 121, 3) := by decide +kernel
theorem dX7_play_103 : decode cX7_play 103 = .ok (.iload_n 1, 1) := by decide +kernel
theorem dX7_play_104 : decode cX7_play 104 = .ok (.ireturn, 1) := by decide +kernel
theorem dX7_tellsPerson_0 : decode cX7_tellsPerson 0 = .ok (.iload_n 2, 1) := by decide +kernel
theorem dX7_tellsPerson_1 : decode cX7_tellsPerson 1 = .ok (.tableswitch 97 0 5 #[39, 49, 61, 67, 77, 87], 39) := by decide +kernel
theorem dX7_tellsPerson_40 : decode cX7_tellsPerson 40 = .ok (.aload_n 0, 1) := by decide +kernel
theorem dX7_tellsPerson_41 : decode cX7_tellsPerson 41 = .ok (.getfield 7, 3) := by decide +kernel
theorem dX7_tellsPerson_44 : decode cX7_tellsPerson 44 = .ok (.bipush 10, 2) := by decide +kernel
theorem dX7_tellsPerson_46 : decode cX7_tellsPerson 46 = .ok (.iload_n 1, 1) := by decide +kernel
theorem dX7_tellsPerson_47 : decode cX7_tellsPerson 47 = .ok (.iadd, 1) := by decide +kernel
theorem dX7_tellsPerson_48 : decode cX7_tellsPerson 48 = .ok (.iaload, 1) := by decide +kernel
theorem dX7_tellsPerson_49 : decode cX7_tellsPerson 49 = .ok (.ireturn, 1) := by decide +kernel
theorem dX7_tellsPerson_50 : decode cX7_tellsPerson 50 = .ok (.aload_n 0, 1) := by decide +kernel
theorem dX7_tellsPerson_51 : decode cX7_tellsPerson 51 = .ok (.iload_n 1, 1) := by decide +kernel
theorem dX7_tellsPerson_52 : decode cX7_tellsPerson 52 = .ok (.aload_n 0, 1) := by decide +kernel
theorem dX7_tellsPerson_53 : decode cX7_tellsPerson 53 = .ok (.getfield 7, 3) := by decide +kernel
theorem dX7_tellsPerson_56 : decode cX7_tellsPerson 56 = .ok (.iconst 0, 1) := by decide +kernel
theorem dX7_tellsPerson_57 : decode cX7_tellsPerson 57 = .ok (.iaload, 1) := by decide +kernel
theorem dX7_tellsPerson_58 : decode cX7_tellsPerson 58 = .ok (.invokevirtual 41, 3) := by decide +kernel
theorem dX7_tellsPerson_61 : decode cX7_tellsPerson 61 = .ok (.ireturn, 1) := by decide +kernel
theorem dX7_tellsPerson_62 : decode cX7_tellsPerson 62 = .ok (.aload_n 0, 1) := by decide +kernel
theorem dX7_tellsPerson_63 : decode cX7_tellsPerson 63 = .ok (.iload_n 1, 1) := by decide +kernel
theorem dX7_tellsPerson_64 : decode cX7_tellsPerson 64 = .ok (.invokevirtual 150, 3) := by decide +kernel
theorem dX7_tellsPerson_67 : decode cX7_tellsPerson 67 = .ok (.ireturn, 1) := by decide +kernel
theorem dX7_tellsPerson_68 : decode cX7_tellsPerson 68 = .ok (.aload_n 0, 1) := by decide +kernel
theorem dX7_tellsPerson_69 : decode cX7_tellsPerson 69 = .ok (.getfield 7, 3) := by decide +kernel
theorem dX7_tellsPerson_72 : decode cX7_tellsPerson 72 = .ok (.bipush 34, 2) := by decide +kernel
theorem dX7_tellsPerson_74 : decode cX7_tellsPerson 74 = .ok (.iload_n 1, 1) := by decide +kernel
theorem dX7_tellsPerson_75 : decode cX7_tellsPerson 75 = .ok (.iadd, 1) := by decide +kernel
theorem dX7_tellsPerson_76 : decode cX7_tellsPerson 76 = .ok (.iaload, 1) := by decide +kernel
theorem dX7_tellsPerson_77 : decode cX7_tellsPerson 77 = .ok (.ireturn, 1) := by decide +kernel
theorem dX7_tellsPerson_78 : decode cX7_tellsPerson 78 = .ok (.aload_n 0, 1) := by decide +kernel
theorem dX7_tellsPerson_79 : decode cX7_tellsPerson 79 = .ok (.getfield 7, 3) := by decide +kernel
theorem dX7_tellsPerson_82 : decode cX7_tellsPerson 82 = .ok (.bipush 18, 2) := by decide +kernel
theorem dX7_tellsPerson_84 : decode cX7_tellsPerson 84 = .ok (.iload_n 1, 1) := by decide +kernel
theorem dX7_tellsPerson_85 : decode cX7_tellsPerson 85 = .ok (.iadd, 1) := by decide +kernel
theorem dX7_tellsPerson_86 : decode cX7_tellsPerson 86 = .ok (.iaload, 1) := by decide +kernel
theorem dX7_tellsPerson_87 : decode cX7_tellsPerson 87 = .ok (.ireturn, 1) := by decide +kernel
theorem dX7_tellsPerson_88 : decode cX7_tellsPerson 88 = .ok (.aload_n 0, 1) := by decide +kernel
theorem dX7_tellsPerson_89 : decode cX7_tellsPerson 89 = .ok (.getfield 7, 3) := by decide +kernel
theorem dX7_tellsPerson_92 : decode cX7_tellsPerson 92 = .ok (.bipush 26, 2) := by decide +kernel
theorem dX7_tellsPerson_94 : decode cX7_tellsPerson 94 = .ok (.iload_n 1, 1) := by decide +kernel
theorem dX7_tellsPerson_95 : decode cX7_tellsPerson 95 = .ok (.iadd, 1) := by decide +kernel
theorem dX7_tellsPerson_96 : decode cX7_tellsPerson 96 = .ok (.iaload, 1) := by decide +kernel
theorem dX7_tellsPerson_97 : decode cX7_tellsPerson 97 = .ok (.ireturn, 1) := by decide +kernel
theorem dX7_tellsPerson_98 : decode cX7_tellsPerson 98 = .ok (.aload_n 0, 1) := by decide +kernel
theorem dX7_tellsPerson_99 : decode cX7_tellsPerson 99 = .ok (.iload_n 1, 1) := by decide +kernel
theorem dX7_tellsPerson_100 : decode cX7_tellsPerson 100 = .ok (.invokevirtual 153, 3) := by decide +kernel
theorem dX7_tellsPerson_103 : decode cX7_tellsPerson 103 = .ok (.ireturn, 1) := by decide +kernel
theorem dX7_person_0 : decode cX7_person 0 = .ok (.aload_n 0, 1) := by decide +kernel
theorem dX7_person_1 : decode cX7_person 1 = .ok (.iconst 0, 1) := by decide +kernel
theorem dX7_person_2 : decode cX7_person 2 = .ok (.putfield 22, 3) := by decide +kernel
theorem dX7_person_5 : decode cX7_person 5 = .ok (.iload_n 1, 1) := by decide +kernel
theorem dX7_person_6 : decode cX7_person 6 = .ok (.invokestatic 90, 3) := by decide +kernel
theorem dX7_person_9 : decode cX7_person 9 = .ok (.ifCond .ne 9, 3) := by decide +kernel
theorem dX7_person_12 : decode cX7_person 12 = .ok (.aload_n 0, 1) := by decide +kernel
theorem dX7_person_13 : decode cX7_person 13 = .ok (.iconst 1, 1) := by decide +kernel
theorem dX7_person_14 : decode cX7_person 14 = .ok (.invokevirtual 33, 3) := by decide +kernel
theorem dX7_person_17 : decode cX7_person 17 = .ok (.ireturn, 1) := by decide +kernel
theorem dX7_person_18 : decode cX7_person 18 = .ok (.iload_n 2, 1) := by decide +kernel
theorem dX7_person_19 : decode cX7_person 19 = .ok (.iconst 0, 1) := by decide +kernel
theorem dX7_person_20 : decode cX7_person 20 = .ok (.bipush 6, 2) := by decide +kernel
theorem dX7_person_22 : decode cX7_person 22 = .ok (.invokestatic 26, 3) := by decide +kernel
theorem dX7_person_25 : decode cX7_person 25 = .ok (.ifCond .eq 12, 3) := by decide +kernel
theorem dX7_person_28 : decode cX7_person 28 = .ok (.aload_n 0, 1) := by decide +kernel
theorem dX7_person_29 : decode cX7_person 29 = .ok (.iload_n 1, 1) := by decide +kernel
theorem dX7_person_30 : decode cX7_person 30 = .ok (.iload_n 2, 1) := by decide +kernel
theorem dX7_person_31 : decode cX7_person 31 = .ok (.invokevirtual 156, 3) := by decide +kernel
theorem dX7_person_34 : decode cX7_person 34 = .ok (.goto 8, 3) := by decide +kernel
theorem dX7_person_37 : decode cX7_person 37 = .ok (.aload_n 0, 1) := by decide +kernel
theorem dX7_person_38 : decode cX7_person 38 = .ok (.iconst 2, 1) := by decide +kernel
theorem dX7_person_39 : decode cX7_person 39 = .ok (.invokevirtual 33, 3) := by decide +kernel
theorem dX7_person_42 : decode cX7_person 42 = .ok (.ireturn, 1) := by decide +kernel
theorem dX7_rehearsed_0 : decode cX7_rehearsed 0 = .ok (.aload_n 0, 1) := by decide +kernel
theorem dX7_rehearsed_1 : decode cX7_rehearsed 1 = .ok (.iconst 0, 1) := by decide +kernel
theorem dX7_rehearsed_2 : decode cX7_rehearsed 2 = .ok (.putfield 22, 3) := by decide +kernel
theorem dX7_rehearsed_5 : decode cX7_rehearsed 5 = .ok (.iload_n 1, 1) := by decide +kernel
theorem dX7_rehearsed_6 : decode cX7_rehearsed 6 = .ok (.invokestatic 90, 3) := by decide +kernel
theorem dX7_rehearsed_9 : decode cX7_rehearsed 9 = .ok (.ifCond .eq 10, 3) := by decide +kernel
theorem dX7_rehearsed_12 : decode cX7_rehearsed 12 = .ok (.iload_n 2, 1) := by decide +kernel
theorem dX7_rehearsed_13 : decode cX7_rehearsed 13 = .ok (.invokestatic 100, 3) := by decide +kernel
theorem dX7_rehearsed_16 : decode cX7_rehearsed 16 = .ok (.ifCond .ne 9, 3) := by decide +kernel
theorem dX7_rehearsed_19 : decode cX7_rehearsed 19 = .ok (.aload_n 0, 1) := by decide +kernel
theorem dX7_rehearsed_20 : decode cX7_rehearsed 20 = .ok (.iconst 1, 1) := by decide +kernel
theorem dX7_rehearsed_21 : decode cX7_rehearsed 21 = .ok (.invokevirtual 33, 3) := by decide +kernel
theorem dX7_rehearsed_24 : decode cX7_rehearsed 24 = .ok (.ireturn, 1) := by decide +kernel
theorem dX7_rehearsed_25 : decode cX7_rehearsed 25 = .ok (.iload_n 3, 1) := by decide +kernel
theorem dX7_rehearsed_26 : decode cX7_rehearsed 26 = .ok (.invokestatic 103, 3) := by decide +kernel
theorem dX7_rehearsed_29 : decode cX7_rehearsed 29 = .ok (.ifCond .eq 19, 3) := by decide +kernel
theorem dX7_rehearsed_32 : decode cX7_rehearsed 32 = .ok (.aload_n 0, 1) := by decide +kernel
theorem dX7_rehearsed_33 : decode cX7_rehearsed 33 = .ok (.iload_n 1, 1) := by decide +kernel
theorem dX7_rehearsed_34 : decode cX7_rehearsed 34 = .ok (.iload_n 2, 1) := by decide +kernel
theorem dX7_rehearsed_35 : decode cX7_rehearsed 35 = .ok (.iload_n 3, 1) := by decide +kernel
theorem dX7_rehearsed_36 : decode cX7_rehearsed 36 = .ok (.aload_n 0, 1) := by decide +kernel
theorem dX7_rehearsed_37 : decode cX7_rehearsed 37 = .ok (.getfield 7, 3) := by decide +kernel
theorem dX7_rehearsed_40 : decode cX7_rehearsed 40 = .ok (.iconst 0, 1) := by decide +kernel
theorem dX7_rehearsed_41 : decode cX7_rehearsed 41 = .ok (.iaload, 1) := by decide +kernel
theorem dX7_rehearsed_42 : decode cX7_rehearsed 42 = .ok (.invokevirtual 69, 3) := by decide +kernel
theorem dX7_rehearsed_45 : decode cX7_rehearsed 45 = .ok (.goto 8, 3) := by decide +kernel
theorem dX7_rehearsed_48 : decode cX7_rehearsed 48 = .ok (.aload_n 0, 1) := by decide +kernel
theorem dX7_rehearsed_49 : decode cX7_rehearsed 49 = .ok (.iconst 2, 1) := by decide +kernel
theorem dX7_rehearsed_50 : decode cX7_rehearsed 50 = .ok (.invokevirtual 33, 3) := by decide +kernel
theorem dX7_rehearsed_53 : decode cX7_rehearsed 53 = .ok (.ireturn, 1) := by decide +kernel
theorem dX7_kind_0 : decode cX7_kind 0 = .ok (.aload_n 0, 1) := by decide +kernel
theorem dX7_kind_1 : decode cX7_kind 1 = .ok (.iconst 0, 1) := by decide +kernel
theorem dX7_kind_2 : decode cX7_kind 2 = .ok (.putfield 22, 3) := by decide +kernel
theorem dX7_kind_5 : decode cX7_kind 5 = .ok (.iload_n 1, 1) := by decide +kernel
theorem dX7_kind_6 : decode cX7_kind 6 = .ok (.invokestatic 100, 3) := by decide +kernel
theorem dX7_kind_9 : decode cX7_kind 9 = .ok (.ifCond .ne 9, 3) := by decide +kernel
theorem dX7_kind_12 : decode cX7_kind 12 = .ok (.aload_n 0, 1) := by decide +kernel
theorem dX7_kind_13 : decode cX7_kind 13 = .ok (.iconst 1, 1) := by decide +kernel
theorem dX7_kind_14 : decode cX7_kind 14 = .ok (.invokevirtual 33, 3) := by decide +kernel
theorem dX7_kind_17 : decode cX7_kind 17 = .ok (.ireturn, 1) := by decide +kernel
theorem dX7_kind_18 : decode cX7_kind 18 = .ok (.iload_n 2, 1) := by decide +kernel
theorem dX7_kind_19 : decode cX7_kind 19 = .ok (.invokestatic 103, 3) := by decide +kernel
theorem dX7_kind_22 : decode cX7_kind 22 = .ok (.ifCond .eq 12, 3) := by decide +kernel
theorem dX7_kind_25 : decode cX7_kind 25 = .ok (.iload_n 3, 1) := by decide +kernel
theorem dX7_kind_26 : decode cX7_kind 26 = .ok (.iconst 0, 1) := by decide +kernel
theorem dX7_kind_27 : decode cX7_kind 27 = .ok (.iconst 2, 1) := by decide +kernel
theorem dX7_kind_28 : decode cX7_kind 28 = .ok (.invokestatic 26, 3) := by decide +kernel
theorem dX7_kind_31 : decode cX7_kind 31 = .ok (.ifCond .ne 9, 3) := by decide +kernel
theorem dX7_kind_34 : decode cX7_kind 34 = .ok (.aload_n 0, 1) := by decide +kernel
theorem dX7_kind_35 : decode cX7_kind 35 = .ok (.iconst 2, 1) := by decide +kernel
theorem dX7_kind_36 : decode cX7_kind 36 = .ok (.invokevirtual 33, 3) := by decide +kernel
theorem dX7_kind_39 : decode cX7_kind 39 = .ok (.ireturn, 1) := by decide +kernel
theorem dX7_kind_40 : decode cX7_kind 40 = .ok (.iload_n 3, 1) := by decide +kernel
theorem dX7_kind_41 : decode cX7_kind 41 = .ok (.ifCond .ne 11, 3) := by decide +kernel
theorem dX7_kind_44 : decode cX7_kind 44 = .ok (.iload_n 1, 1) := by decide +kernel
theorem dX7_kind_45 : decode cX7_kind 45 = .ok (.iload_n 2, 1) := by decide +kernel
theorem dX7_kind_46 : decode cX7_kind 46 = .ok (.invokestatic 66, 3) := by decide +kernel
theorem dX7_kind_49 : decode cX7_kind 49 = .ok (.goto 19, 3) := by decide +kernel
theorem dX7_kind_52 : decode cX7_kind 52 = .ok (.iload_n 3, 1) := by decide +kernel
theorem dX7_kind_53 : decode cX7_kind 53 = .ok (.iconst 1, 1) := by decide +kernel
theorem dX7_kind_54 : decode cX7_kind 54 = .ok (.if_icmp .ne 10, 3) := by decide +kernel
theorem dX7_kind_57 : decode cX7_kind 57 = .ok (.iload_n 1, 1) := by decide +kernel
theorem dX7_kind_58 : decode cX7_kind 58 = .ok (.invokestatic 53, 3) := by decide +kernel
theorem dX7_kind_61 : decode cX7_kind 61 = .ok (.goto 7, 3) := by decide +kernel
theorem dX7_kind_64 : decode cX7_kind 64 = .ok (.iload_n 1, 1) := by decide +kernel
theorem dX7_kind_65 : decode cX7_kind 65 = .ok (.invokestatic 44, 3) := by decide +kernel
theorem dX7_kind_68 : decode cX7_kind 68 = .ok (.ireturn, 1) := by decide +kernel
theorem dX7_tellsScene_0 : decode cX7_tellsScene 0 = .ok (.iload_n 2, 1) := by decide +kernel
theorem dX7_tellsScene_1 : decode cX7_tellsScene 1 = .ok (.iconst 5, 1) := by decide +kernel
theorem dX7_tellsScene_2 : decode cX7_tellsScene 2 = .ok (.if_icmp .ge 12, 3) := by decide +kernel
theorem dX7_tellsScene_5 : decode cX7_tellsScene 5 = .ok (.aload_n 0, 1) := by decide +kernel
theorem dX7_tellsScene_6 : decode cX7_tellsScene 6 = .ok (.iload_n 1, 1) := by decide +kernel
theorem dX7_tellsScene_7 : decode cX7_tellsScene 7 = .ok (.iload_n 2, 1) := by decide +kernel
theorem dX7_tellsScene_8 : decode cX7_tellsScene 8 = .ok (.invokevirtual 63, 3) := by decide +kernel
theorem dX7_tellsScene_11 : decode cX7_tellsScene 11 = .ok (.goto 8, 3) := by decide +kernel
theorem dX7_tellsScene_14 : decode cX7_tellsScene 14 = .ok (.aload_n 0, 1) := by decide +kernel
theorem dX7_tellsScene_15 : decode cX7_tellsScene 15 = .ok (.iload_n 1, 1) := by decide +kernel
theorem dX7_tellsScene_16 : decode cX7_tellsScene 16 = .ok (.invokevirtual 159, 3) := by decide +kernel
theorem dX7_tellsScene_19 : decode cX7_tellsScene 19 = .ok (.ireturn, 1) := by decide +kernel
theorem dX7_sceneOf_0 : decode cX7_sceneOf 0 = .ok (.aload_n 0, 1) := by decide +kernel
theorem dX7_sceneOf_1 : decode cX7_sceneOf 1 = .ok (.iconst 0, 1) := by decide +kernel
theorem dX7_sceneOf_2 : decode cX7_sceneOf 2 = .ok (.putfield 22, 3) := by decide +kernel
theorem dX7_sceneOf_5 : decode cX7_sceneOf 5 = .ok (.aload_n 0, 1) := by decide +kernel
theorem dX7_sceneOf_6 : decode cX7_sceneOf 6 = .ok (.iload_n 1, 1) := by decide +kernel
theorem dX7_sceneOf_7 : decode cX7_sceneOf 7 = .ok (.invokevirtual 115, 3) := by decide +kernel
theorem dX7_sceneOf_10 : decode cX7_sceneOf 10 = .ok (.ifCond .ne 9, 3) := by decide +kernel
theorem dX7_sceneOf_13 : decode cX7_sceneOf 13 = .ok (.aload_n 0, 1) := by decide +kernel
theorem dX7_sceneOf_14 : decode cX7_sceneOf 14 = .ok (.iconst 1, 1) := by decide +kernel
theorem dX7_sceneOf_15 : decode cX7_sceneOf 15 = .ok (.invokevirtual 33, 3) := by decide +kernel
theorem dX7_sceneOf_18 : decode cX7_sceneOf 18 = .ok (.ireturn, 1) := by decide +kernel
theorem dX7_sceneOf_19 : decode cX7_sceneOf 19 = .ok (.iload_n 2, 1) := by decide +kernel
theorem dX7_sceneOf_20 : decode cX7_sceneOf 20 = .ok (.iconst 0, 1) := by decide +kernel
theorem dX7_sceneOf_21 : decode cX7_sceneOf 21 = .ok (.iconst 5, 1) := by decide +kernel
theorem dX7_sceneOf_22 : decode cX7_sceneOf 22 = .ok (.invokestatic 26, 3) := by decide +kernel
theorem dX7_sceneOf_25 : decode cX7_sceneOf 25 = .ok (.ifCond .eq 12, 3) := by decide +kernel
theorem dX7_sceneOf_28 : decode cX7_sceneOf 28 = .ok (.aload_n 0, 1) := by decide +kernel
theorem dX7_sceneOf_29 : decode cX7_sceneOf 29 = .ok (.iload_n 1, 1) := by decide +kernel
theorem dX7_sceneOf_30 : decode cX7_sceneOf 30 = .ok (.iload_n 2, 1) := by decide +kernel
theorem dX7_sceneOf_31 : decode cX7_sceneOf 31 = .ok (.invokevirtual 162, 3) := by decide +kernel
theorem dX7_sceneOf_34 : decode cX7_sceneOf 34 = .ok (.goto 8, 3) := by decide +kernel
theorem dX7_sceneOf_37 : decode cX7_sceneOf 37 = .ok (.aload_n 0, 1) := by decide +kernel
theorem dX7_sceneOf_38 : decode cX7_sceneOf 38 = .ok (.iconst 2, 1) := by decide +kernel
theorem dX7_sceneOf_39 : decode cX7_sceneOf 39 = .ok (.invokevirtual 33, 3) := by decide +kernel
theorem dX7_sceneOf_42 : decode cX7_sceneOf 42 = .ok (.ireturn, 1) := by decide +kernel
theorem dX7_shotScenes_0 : decode cX7_shotScenes 0 = .ok (.iconst 0, 1) := by decide +kernel
theorem dX7_shotScenes_1 : decode cX7_shotScenes 1 = .ok (.istore_n 1, 1) := by decide +kernel
theorem dX7_shotScenes_2 : decode cX7_shotScenes 2 = .ok (.iconst 0, 1) := by decide +kernel
theorem dX7_shotScenes_3 : decode cX7_shotScenes 3 = .ok (.istore_n 2, 1) := by decide +kernel
theorem dX7_shotScenes_4 : decode cX7_shotScenes 4 = .ok (.iload_n 2, 1) := by decide +kernel
theorem dX7_shotScenes_5 : decode cX7_shotScenes 5 = .ok (.aload_n 0, 1) := by decide +kernel
theorem dX7_shotScenes_6 : decode cX7_shotScenes 6 = .ok (.getfield 7, 3) := by decide +kernel
theorem dX7_shotScenes_9 : decode cX7_shotScenes 9 = .ok (.iconst 4, 1) := by decide +kernel
theorem dX7_shotScenes_10 : decode cX7_shotScenes 10 = .ok (.iaload, 1) := by decide +kernel
theorem dX7_shotScenes_11 : decode cX7_shotScenes 11 = .ok (.if_icmp .ge 27, 3) := by decide +kernel
theorem dX7_shotScenes_14 : decode cX7_shotScenes 14 = .ok (.iload_n 1, 1) := by decide +kernel
theorem dX7_shotScenes_15 : decode cX7_shotScenes 15 = .ok (.aload_n 0, 1) := by decide +kernel
theorem dX7_shotScenes_16 : decode cX7_shotScenes 16 = .ok (.iload_n 2, 1) := by decide +kernel
theorem dX7_shotScenes_17 : decode cX7_shotScenes 17 = .ok (.iconst 3, 1) := by decide +kernel
theorem dX7_shotScenes_18 : decode cX7_shotScenes 18 = .ok (.invokevirtual 63, 3) := by decide +kernel
theorem dX7_shotScenes_21 : decode cX7_shotScenes 21 = .ok (.iconst (-1), 1) := by decide +kernel
theorem dX7_shotScenes_22 : decode cX7_shotScenes 22 = .ok (.if_icmp .ne 7, 3) := by decide +kernel
theorem dX7_shotScenes_25 : decode cX7_shotScenes 25 = .ok (.iconst 0, 1) := by decide +kernel
theorem dX7_shotScenes_26 : decode cX7_shotScenes 26 = .ok (.goto 4, 3) := by decide +kernel
theorem dX7_shotScenes_29 : decode cX7_shotScenes 29 = .ok (.iconst 1, 1) := by decide +kernel
theorem dX7_shotScenes_30 : decode cX7_shotScenes 30 = .ok (.iadd, 1) := by decide +kernel
theorem dX7_shotScenes_31 : decode cX7_shotScenes 31 = .ok (.istore_n 1, 1) := by decide +kernel
theorem dX7_shotScenes_32 : decode cX7_shotScenes 32 = .ok (.iinc 2 1, 3) := by decide +kernel
theorem dX7_shotScenes_35 : decode cX7_shotScenes 35 = .ok (.goto (-31), 3) := by decide +kernel
theorem dX7_shotScenes_38 : decode cX7_shotScenes 38 = .ok (.iload_n 1, 1) := by decide +kernel
theorem dX7_shotScenes_39 : decode cX7_shotScenes 39 = .ok (.ireturn, 1) := by decide +kernel
theorem dX7_openScenes_0 : decode cX7_openScenes 0 = .ok (.iconst 0, 1) := by decide +kernel
theorem dX7_openScenes_1 : decode cX7_openScenes 1 = .ok (.istore_n 1, 1) := by decide +kernel
theorem dX7_openScenes_2 : decode cX7_openScenes 2 = .ok (.iconst 0, 1) := by decide +kernel
theorem dX7_openScenes_3 : decode cX7_openScenes 3 = .ok (.istore_n 2, 1) := by decide +kernel
theorem dX7_openScenes_4 : decode cX7_openScenes 4 = .ok (.iload_n 2, 1) := by decide +kernel
theorem dX7_openScenes_5 : decode cX7_openScenes 5 = .ok (.aload_n 0, 1) := by decide +kernel
theorem dX7_openScenes_6 : decode cX7_openScenes 6 = .ok (.getfield 7, 3) := by decide +kernel
theorem dX7_openScenes_9 : decode cX7_openScenes 9 = .ok (.iconst 4, 1) := by decide +kernel
theorem dX7_openScenes_10 : decode cX7_openScenes 10 = .ok (.iaload, 1) := by decide +kernel
theorem dX7_openScenes_11 : decode cX7_openScenes 11 = .ok (.if_icmp .ge 25, 3) := by decide +kernel
theorem dX7_openScenes_14 : decode cX7_openScenes 14 = .ok (.iload_n 1, 1) := by decide +kernel
theorem dX7_openScenes_15 : decode cX7_openScenes 15 = .ok (.aload_n 0, 1) := by decide +kernel
theorem dX7_openScenes_16 : decode cX7_openScenes 16 = .ok (.iload_n 2, 1) := by decide +kernel
theorem dX7_openScenes_17 : decode cX7_openScenes 17 = .ok (.invokevirtual 159, 3) := by decide +kernel
theorem dX7_openScenes_20 : decode cX7_openScenes 20 = .ok (.ifCond .ne 7, 3) := by decide +kernel
theorem dX7_openScenes_23 : decode cX7_openScenes 23 = .ok (.iconst 0, 1) := by decide +kernel
theorem dX7_openScenes_24 : decode cX7_openScenes 24 = .ok (.goto 4, 3) := by decide +kernel
theorem dX7_openScenes_27 : decode cX7_openScenes 27 = .ok (.iconst 1, 1) := by decide +kernel
theorem dX7_openScenes_28 : decode cX7_openScenes 28 = .ok (.iadd, 1) := by decide +kernel
theorem dX7_openScenes_29 : decode cX7_openScenes 29 = .ok (.istore_n 1, 1) := by decide +kernel
theorem dX7_openScenes_30 : decode cX7_openScenes 30 = .ok (.iinc 2 1, 3) := by decide +kernel
theorem dX7_openScenes_33 : decode cX7_openScenes 33 = .ok (.goto (-29), 3) := by decide +kernel
theorem dX7_openScenes_36 : decode cX7_openScenes 36 = .ok (.iload_n 1, 1) := by decide +kernel
theorem dX7_openScenes_37 : decode cX7_openScenes 37 = .ok (.ireturn, 1) := by decide +kernel
theorem dX7_tellsCount_0 : decode cX7_tellsCount 0 = .ok (.iload_n 1, 1) := by decide +kernel
theorem dX7_tellsCount_1 : decode cX7_tellsCount 1 = .ok (.tableswitch 139 0 9 #[55, 55, 62, 73, 99, 106, 111, 118, 126, 134], 55) := by decide +kernel
theorem dX7_tellsCount_56 : decode cX7_tellsCount 56 = .ok (.aload_n 0, 1) := by decide +kernel
theorem dX7_tellsCount_57 : decode cX7_tellsCount 57 = .ok (.getfield 7, 3) := by decide +kernel
theorem dX7_tellsCount_60 : decode cX7_tellsCount 60 = .ok (.iload_n 1, 1) := by decide +kernel
theorem dX7_tellsCount_61 : decode cX7_tellsCount 61 = .ok (.iaload, 1) := by decide +kernel
theorem dX7_tellsCount_62 : decode cX7_tellsCount 62 = .ok (.ireturn, 1) := by decide +kernel
theorem dX7_tellsCount_63 : decode cX7_tellsCount 63 = .ok (.aload_n 0, 1) := by decide +kernel
theorem dX7_tellsCount_64 : decode cX7_tellsCount 64 = .ok (.aload_n 0, 1) := by decide +kernel
theorem dX7_tellsCount_65 : decode cX7_tellsCount 65 = .ok (.getfield 7, 3) := by decide +kernel
theorem dX7_tellsCount_68 : decode cX7_tellsCount 68 = .ok (.iconst 0, 1) := by decide +kernel
theorem dX7_tellsCount_69 : decode cX7_tellsCount 69 = .ok (.iaload, 1) := by decide +kernel
theorem dX7_tellsCount_70 : decode cX7_tellsCount 70 = .ok (.invokevirtual 76, 3) := by decide +kernel
theorem dX7_tellsCount_73 : decode cX7_tellsCount 73 = .ok (.ireturn, 1) := by decide +kernel
theorem dX7_tellsCount_74 : decode cX7_tellsCount 74 = .ok (.aload_n 0, 1) := by decide +kernel
theorem dX7_tellsCount_75 : decode cX7_tellsCount 75 = .ok (.getfield 7, 3) := by decide +kernel
theorem dX7_tellsCount_78 : decode cX7_tellsCount 78 = .ok (.iconst 0, 1) := by decide +kernel
theorem dX7_tellsCount_79 : decode cX7_tellsCount 79 = .ok (.iaload, 1) := by decide +kernel
theorem dX7_tellsCount_80 : decode cX7_tellsCount 80 = .ok (.aload_n 0, 1) := by decide +kernel
theorem dX7_tellsCount_81 : decode cX7_tellsCount 81 = .ok (.getfield 7, 3) := by decide +kernel
theorem dX7_tellsCount_84 : decode cX7_tellsCount 84 = .ok (.iconst 3, 1) := by decide +kernel
theorem dX7_tellsCount_85 : decode cX7_tellsCount 85 = .ok (.iaload, 1) := by decide +kernel
theorem dX7_tellsCount_86 : decode cX7_tellsCount 86 = .ok (.if_icmp .gt 12, 3) := by decide +kernel
theorem dX7_tellsCount_89 : decode cX7_tellsCount 89 = .ok (.aload_n 0, 1) := by decide +kernel
theorem dX7_tellsCount_90 : decode cX7_tellsCount 90 = .ok (.getfield 7, 3) := by decide +kernel
theorem dX7_tellsCount_93 : decode cX7_tellsCount 93 = .ok (.iconst 3, 1) := by decide +kernel
theorem dX7_tellsCount_94 : decode cX7_tellsCount 94 = .ok (.iaload, 1) := by decide +kernel
theorem dX7_tellsCount_95 : decode cX7_tellsCount 95 = .ok (.goto 4, 3) := by decide +kernel
theorem dX7_tellsCount_98 : decode cX7_tellsCount 98 = .ok (.iconst (-1), 1) := by decide +kernel
theorem dX7_tellsCount_99 : decode cX7_tellsCount 99 = .ok (.ireturn, 1) := by decide +kernel
theorem dX7_tellsCount_100 : decode cX7_tellsCount 100 = .ok (.aload_n 0, 1) := by decide +kernel
theorem dX7_tellsCount_101 : decode cX7_tellsCount 101 = .ok (.getfield 7, 3) := by decide +kernel
theorem dX7_tellsCount_104 : decode cX7_tellsCount 104 = .ok (.iconst 4, 1) := by decide +kernel
theorem dX7_tellsCount_105 : decode cX7_tellsCount 105 = .ok (.iaload, 1) := by decide +kernel
theorem dX7_tellsCount_106 : decode cX7_tellsCount 106 = .ok (.ireturn, 1) := by decide +kernel
theorem dX7_tellsCount_107 : decode cX7_tellsCount 107 = .ok (.aload_n 0, 1) := by decide +kernel
theorem dX7_tellsCount_108 : decode cX7_tellsCount 108 = .ok (.invokevirtual 165, 3) := by decide +kernel
theorem dX7_tellsCount_111 : decode cX7_tellsCount 111 = .ok (.ireturn, 1) := by decide +kernel
theorem dX7_tellsCount_112 : decode cX7_tellsCount 112 = .ok (.aload_n 0, 1) := by decide +kernel
theorem dX7_tellsCount_113 : decode cX7_tellsCount 113 = .ok (.getfield 7, 3) := by decide +kernel
theorem dX7_tellsCount_116 : decode cX7_tellsCount 116 = .ok (.iconst 5, 1) := by decide +kernel
theorem dX7_tellsCount_117 : decode cX7_tellsCount 117 = .ok (.iaload, 1) := by decide +kernel
theorem dX7_tellsCount_118 : decode cX7_tellsCount 118 = .ok (.ireturn, 1) := by decide +kernel
theorem dX7_tellsCount_119 : decode cX7_tellsCount 119 = .ok (.aload_n 0, 1) := by decide +kernel
theorem dX7_tellsCount_120 : decode cX7_tellsCount 120 = .ok (.getfield 7, 3) := by decide +kernel
theorem dX7_tellsCount_123 : decode cX7_tellsCount 123 = .ok (.bipush 6, 2) := by decide +kernel
theorem dX7_tellsCount_125 : decode cX7_tellsCount 125 = .ok (.iaload, 1) := by decide +kernel
theorem dX7_tellsCount_126 : decode cX7_tellsCount 126 = .ok (.ireturn, 1) := by decide +kernel
theorem dX7_tellsCount_127 : decode cX7_tellsCount 127 = .ok (.aload_n 0, 1) := by decide +kernel
theorem dX7_tellsCount_128 : decode cX7_tellsCount 128 = .ok (.getfield 7, 3) := by decide +kernel
theorem dX7_tellsCount_131 : decode cX7_tellsCount 131 = .ok (.bipush 7, 2) := by decide +kernel
theorem dX7_tellsCount_133 : decode cX7_tellsCount 133 = .ok (.iaload, 1) := by decide +kernel
theorem dX7_tellsCount_134 : decode cX7_tellsCount 134 = .ok (.ireturn, 1) := by decide +kernel
theorem dX7_tellsCount_135 : decode cX7_tellsCount 135 = .ok (.aload_n 0, 1) := by decide +kernel
theorem dX7_tellsCount_136 : decode cX7_tellsCount 136 = .ok (.invokevirtual 168, 3) := by decide +kernel
theorem dX7_tellsCount_139 : decode cX7_tellsCount 139 = .ok (.ireturn, 1) := by decide +kernel
theorem dX7_tellsCount_140 : decode cX7_tellsCount 140 = .ok (.aload_n 0, 1) := by decide +kernel
theorem dX7_tellsCount_141 : decode cX7_tellsCount 141 = .ok (.getfield 30, 3) := by decide +kernel
theorem dX7_tellsCount_144 : decode cX7_tellsCount 144 = .ok (.ireturn, 1) := by decide +kernel
theorem dX7_count_0 : decode cX7_count 0 = .ok (.aload_n 0, 1) := by decide +kernel
theorem dX7_count_1 : decode cX7_count 1 = .ok (.iconst 0, 1) := by decide +kernel
theorem dX7_count_2 : decode cX7_count 2 = .ok (.putfield 22, 3) := by decide +kernel
theorem dX7_count_5 : decode cX7_count 5 = .ok (.iload_n 1, 1) := by decide +kernel
theorem dX7_count_6 : decode cX7_count 6 = .ok (.iconst 0, 1) := by decide +kernel
theorem dX7_count_7 : decode cX7_count 7 = .ok (.bipush 10, 2) := by decide +kernel
theorem dX7_count_9 : decode cX7_count 9 = .ok (.invokestatic 26, 3) := by decide +kernel
theorem dX7_count_12 : decode cX7_count 12 = .ok (.ifCond .eq 11, 3) := by decide +kernel
theorem dX7_count_15 : decode cX7_count 15 = .ok (.aload_n 0, 1) := by decide +kernel
theorem dX7_count_16 : decode cX7_count 16 = .ok (.iload_n 1, 1) := by decide +kernel
theorem dX7_count_17 : decode cX7_count 17 = .ok (.invokevirtual 171, 3) := by decide +kernel
theorem dX7_count_20 : decode cX7_count 20 = .ok (.goto 8, 3) := by decide +kernel
theorem dX7_count_23 : decode cX7_count 23 = .ok (.aload_n 0, 1) := by decide +kernel
theorem dX7_count_24 : decode cX7_count 24 = .ok (.iconst 1, 1) := by decide +kernel
theorem dX7_count_25 : decode cX7_count 25 = .ok (.invokevirtual 33, 3) := by decide +kernel
theorem dX7_count_28 : decode cX7_count 28 = .ok (.ireturn, 1) := by decide +kernel
theorem dX7_refusal_0 : decode cX7_refusal 0 = .ok (.aload_n 0, 1) := by decide +kernel
theorem dX7_refusal_1 : decode cX7_refusal 1 = .ok (.iconst 0, 1) := by decide +kernel
theorem dX7_refusal_2 : decode cX7_refusal 2 = .ok (.putfield 22, 3) := by decide +kernel
theorem dX7_refusal_5 : decode cX7_refusal 5 = .ok (.aload_n 0, 1) := by decide +kernel
theorem dX7_refusal_6 : decode cX7_refusal 6 = .ok (.iload_n 1, 1) := by decide +kernel
theorem dX7_refusal_7 : decode cX7_refusal 7 = .ok (.invokevirtual 115, 3) := by decide +kernel
theorem dX7_refusal_10 : decode cX7_refusal 10 = .ok (.ifCond .eq 10, 3) := by decide +kernel
theorem dX7_refusal_13 : decode cX7_refusal 13 = .ok (.iload_n 2, 1) := by decide +kernel
theorem dX7_refusal_14 : decode cX7_refusal 14 = .ok (.invokestatic 90, 3) := by decide +kernel
theorem dX7_refusal_17 : decode cX7_refusal 17 = .ok (.ifCond .ne 9, 3) := by decide +kernel
theorem dX7_refusal_20 : decode cX7_refusal 20 = .ok (.aload_n 0, 1) := by decide +kernel
theorem dX7_refusal_21 : decode cX7_refusal 21 = .ok (.iconst 1, 1) := by decide +kernel
theorem dX7_refusal_22 : decode cX7_refusal 22 = .ok (.invokevirtual 33, 3) := by decide +kernel
theorem dX7_refusal_25 : decode cX7_refusal 25 = .ok (.ireturn, 1) := by decide +kernel
theorem dX7_refusal_26 : decode cX7_refusal 26 = .ok (.aload_n 0, 1) := by decide +kernel
theorem dX7_refusal_27 : decode cX7_refusal 27 = .ok (.iload_n 1, 1) := by decide +kernel
theorem dX7_refusal_28 : decode cX7_refusal 28 = .ok (.iload_n 2, 1) := by decide +kernel
theorem dX7_refusal_29 : decode cX7_refusal 29 = .ok (.aload_n 0, 1) := by decide +kernel
theorem dX7_refusal_30 : decode cX7_refusal 30 = .ok (.getfield 7, 3) := by decide +kernel
theorem dX7_refusal_33 : decode cX7_refusal 33 = .ok (.iconst 0, 1) := by decide +kernel
theorem dX7_refusal_34 : decode cX7_refusal 34 = .ok (.iaload, 1) := by decide +kernel
theorem dX7_refusal_35 : decode cX7_refusal 35 = .ok (.invokevirtual 87, 3) := by decide +kernel
theorem dX7_refusal_38 : decode cX7_refusal 38 = .ok (.ireturn, 1) := by decide +kernel
theorem dX7_firstDay_0 : decode cX7_firstDay 0 = .ok (.aload_n 0, 1) := by decide +kernel
theorem dX7_firstDay_1 : decode cX7_firstDay 1 = .ok (.getfield 7, 3) := by decide +kernel
theorem dX7_firstDay_4 : decode cX7_firstDay 4 = .ok (.iconst 0, 1) := by decide +kernel
theorem dX7_firstDay_5 : decode cX7_firstDay 5 = .ok (.iaload, 1) := by decide +kernel
theorem dX7_firstDay_6 : decode cX7_firstDay 6 = .ok (.istore_n 3, 1) := by decide +kernel
theorem dX7_firstDay_7 : decode cX7_firstDay 7 = .ok (.iload_n 3, 1) := by decide +kernel
theorem dX7_firstDay_8 : decode cX7_firstDay 8 = .ok (.aload_n 0, 1) := by decide +kernel
theorem dX7_firstDay_9 : decode cX7_firstDay 9 = .ok (.getfield 7, 3) := by decide +kernel
theorem dX7_firstDay_12 : decode cX7_firstDay 12 = .ok (.iconst 0, 1) := by decide +kernel
theorem dX7_firstDay_13 : decode cX7_firstDay 13 = .ok (.iaload, 1) := by decide +kernel
theorem dX7_firstDay_14 : decode cX7_firstDay 14 = .ok (.bipush 60, 2) := by decide +kernel
theorem dX7_firstDay_16 : decode cX7_firstDay 16 = .ok (.iadd, 1) := by decide +kernel
theorem dX7_firstDay_17 : decode cX7_firstDay 17 = .ok (.if_icmp .gt 21, 3) := by decide +kernel
theorem dX7_firstDay_20 : decode cX7_firstDay 20 = .ok (.aload_n 0, 1) := by decide +kernel
theorem dX7_firstDay_21 : decode cX7_firstDay 21 = .ok (.iload_n 1, 1) := by decide +kernel
theorem dX7_firstDay_22 : decode cX7_firstDay 22 = .ok (.iload_n 2, 1) := by decide +kernel
theorem dX7_firstDay_23 : decode cX7_firstDay 23 = .ok (.iload_n 3, 1) := by decide +kernel
theorem dX7_firstDay_24 : decode cX7_firstDay 24 = .ok (.invokevirtual 87, 3) := by decide +kernel
theorem dX7_firstDay_27 : decode cX7_firstDay 27 = .ok (.ifCond .ne 5, 3) := by decide +kernel
theorem dX7_firstDay_30 : decode cX7_firstDay 30 = .ok (.iload_n 3, 1) := by decide +kernel
theorem dX7_firstDay_31 : decode cX7_firstDay 31 = .ok (.ireturn, 1) := by decide +kernel
theorem dX7_firstDay_32 : decode cX7_firstDay 32 = .ok (.iinc 3 1, 3) := by decide +kernel
theorem dX7_firstDay_35 : decode cX7_firstDay 35 = .ok (.goto (-28), 3) := by decide +kernel
theorem dX7_firstDay_38 : decode cX7_firstDay 38 = .ok (.iconst (-1), 1) := by decide +kernel
theorem dX7_firstDay_39 : decode cX7_firstDay 39 = .ok (.ireturn, 1) := by decide +kernel
theorem dX7_soonest_0 : decode cX7_soonest 0 = .ok (.aload_n 0, 1) := by decide +kernel
theorem dX7_soonest_1 : decode cX7_soonest 1 = .ok (.iconst 0, 1) := by decide +kernel
theorem dX7_soonest_2 : decode cX7_soonest 2 = .ok (.putfield 22, 3) := by decide +kernel
theorem dX7_soonest_5 : decode cX7_soonest 5 = .ok (.aload_n 0, 1) := by decide +kernel
theorem dX7_soonest_6 : decode cX7_soonest 6 = .ok (.iload_n 1, 1) := by decide +kernel
theorem dX7_soonest_7 : decode cX7_soonest 7 = .ok (.invokevirtual 115, 3) := by decide +kernel
theorem dX7_soonest_10 : decode cX7_soonest 10 = .ok (.ifCond .eq 19, 3) := by decide +kernel
theorem dX7_soonest_13 : decode cX7_soonest 13 = .ok (.iload_n 2, 1) := by decide +kernel
theorem dX7_soonest_14 : decode cX7_soonest 14 = .ok (.invokestatic 90, 3) := by decide +kernel
theorem dX7_soonest_17 : decode cX7_soonest 17 = .ok (.ifCond .eq 12, 3) := by decide +kernel
theorem dX7_soonest_20 : decode cX7_soonest 20 = .ok (.aload_n 0, 1) := by decide +kernel
theorem dX7_soonest_21 : decode cX7_soonest 21 = .ok (.iload_n 1, 1) := by decide +kernel
theorem dX7_soonest_22 : decode cX7_soonest 22 = .ok (.iload_n 2, 1) := by decide +kernel
theorem dX7_soonest_23 : decode cX7_soonest 23 = .ok (.invokevirtual 174, 3) := by decide +kernel
theorem dX7_soonest_26 : decode cX7_soonest 26 = .ok (.goto 8, 3) := by decide +kernel
theorem dX7_soonest_29 : decode cX7_soonest 29 = .ok (.aload_n 0, 1) := by decide +kernel
theorem dX7_soonest_30 : decode cX7_soonest 30 = .ok (.iconst 1, 1) := by decide +kernel
theorem dX7_soonest_31 : decode cX7_soonest 31 = .ok (.invokevirtual 33, 3) := by decide +kernel
theorem dX7_soonest_34 : decode cX7_soonest 34 = .ok (.ireturn, 1) := by decide +kernel
theorem dX7_lacking_0 : decode cX7_lacking 0 = .ok (.aload_n 0, 1) := by decide +kernel
theorem dX7_lacking_1 : decode cX7_lacking 1 = .ok (.iconst 0, 1) := by decide +kernel
theorem dX7_lacking_2 : decode cX7_lacking 2 = .ok (.putfield 22, 3) := by decide +kernel
theorem dX7_lacking_5 : decode cX7_lacking 5 = .ok (.aload_n 0, 1) := by decide +kernel
theorem dX7_lacking_6 : decode cX7_lacking 6 = .ok (.iload_n 1, 1) := by decide +kernel
theorem dX7_lacking_7 : decode cX7_lacking 7 = .ok (.invokevirtual 115, 3) := by decide +kernel
theorem dX7_lacking_10 : decode cX7_lacking 10 = .ok (.ifCond .eq 25, 3) := by decide +kernel
theorem dX7_lacking_13 : decode cX7_lacking 13 = .ok (.iload_n 2, 1) := by decide +kernel
theorem dX7_lacking_14 : decode cX7_lacking 14 = .ok (.invokestatic 90, 3) := by decide +kernel
theorem dX7_lacking_17 : decode cX7_lacking 17 = .ok (.ifCond .eq 18, 3) := by decide +kernel
theorem dX7_lacking_20 : decode cX7_lacking 20 = .ok (.aload_n 0, 1) := by decide +kernel
theorem dX7_lacking_21 : decode cX7_lacking 21 = .ok (.iload_n 1, 1) := by decide +kernel
theorem dX7_lacking_22 : decode cX7_lacking 22 = .ok (.iload_n 2, 1) := by decide +kernel
theorem dX7_lacking_23 : decode cX7_lacking 23 = .ok (.aload_n 0, 1) := by decide +kernel
theorem dX7_lacking_24 : decode cX7_lacking 24 = .ok (.getfield 7, 3) := by decide +kernel
theorem dX7_lacking_27 : decode cX7_lacking 27 = .ok (.iconst 0, 1) := by decide +kernel
theorem dX7_lacking_28 : decode cX7_lacking 28 = .ok (.iaload, 1) := by decide +kernel
theorem dX7_lacking_29 : decode cX7_lacking 29 = .ok (.invokevirtual 83, 3) := by decide +kernel
theorem dX7_lacking_32 : decode cX7_lacking 32 = .ok (.goto 8, 3) := by decide +kernel
theorem dX7_lacking_35 : decode cX7_lacking 35 = .ok (.aload_n 0, 1) := by decide +kernel
theorem dX7_lacking_36 : decode cX7_lacking 36 = .ok (.iconst 1, 1) := by decide +kernel
theorem dX7_lacking_37 : decode cX7_lacking 37 = .ok (.invokevirtual 33, 3) := by decide +kernel
theorem dX7_lacking_40 : decode cX7_lacking 40 = .ok (.ireturn, 1) := by decide +kernel
theorem dX7_rankFor_0 : decode cX7_rankFor 0 = .ok (.aload_n 0, 1) := by decide +kernel
theorem dX7_rankFor_1 : decode cX7_rankFor 1 = .ok (.iload_n 1, 1) := by decide +kernel
theorem dX7_rankFor_2 : decode cX7_rankFor 2 = .ok (.iconst 2, 1) := by decide +kernel
theorem dX7_rankFor_3 : decode cX7_rankFor 3 = .ok (.invokevirtual 63, 3) := by decide +kernel
theorem dX7_rankFor_6 : decode cX7_rankFor 6 = .ok (.istore_n 3, 1) := by decide +kernel
theorem dX7_rankFor_7 : decode cX7_rankFor 7 = .ok (.iload_n 2, 1) := by decide +kernel
theorem dX7_rankFor_8 : decode cX7_rankFor 8 = .ok (.iload_n 3, 1) := by decide +kernel
theorem dX7_rankFor_9 : decode cX7_rankFor 9 = .ok (.if_icmp .ne 7, 3) := by decide +kernel
theorem dX7_rankFor_12 : decode cX7_rankFor 12 = .ok (.iconst 0, 1) := by decide +kernel
theorem dX7_rankFor_13 : decode cX7_rankFor 13 = .ok (.goto 11, 3) := by decide +kernel
theorem dX7_rankFor_16 : decode cX7_rankFor 16 = .ok (.iconst 1, 1) := by decide +kernel
theorem dX7_rankFor_17 : decode cX7_rankFor 17 = .ok (.aload_n 0, 1) := by decide +kernel
theorem dX7_rankFor_18 : decode cX7_rankFor 18 = .ok (.iload_n 2, 1) := by decide +kernel
theorem dX7_rankFor_19 : decode cX7_rankFor 19 = .ok (.iload_n 3, 1) := by decide +kernel
theorem dX7_rankFor_20 : decode cX7_rankFor 20 = .ok (.invokevirtual 73, 3) := by decide +kernel
theorem dX7_rankFor_23 : decode cX7_rankFor 23 = .ok (.iadd, 1) := by decide +kernel
theorem dX7_rankFor_24 : decode cX7_rankFor 24 = .ok (.istore 4, 2) := by decide +kernel
theorem dX7_rankFor_26 : decode cX7_rankFor 26 = .ok (.sipush 1000, 3) := by decide +kernel
theorem dX7_rankFor_29 : decode cX7_rankFor 29 = .ok (.aload_n 0, 1) := by decide +kernel
theorem dX7_rankFor_30 : decode cX7_rankFor 30 = .ok (.iload_n 1, 1) := by decide +kernel
theorem dX7_rankFor_31 : decode cX7_rankFor 31 = .ok (.iload_n 2, 1) := by decide +kernel
theorem dX7_rankFor_32 : decode cX7_rankFor 32 = .ok (.aload_n 0, 1) := by decide +kernel
theorem dX7_rankFor_33 : decode cX7_rankFor 33 = .ok (.getfield 7, 3) := by decide +kernel
theorem dX7_rankFor_36 : decode cX7_rankFor 36 = .ok (.iconst 0, 1) := by decide +kernel
theorem dX7_rankFor_37 : decode cX7_rankFor 37 = .ok (.iaload, 1) := by decide +kernel
theorem dX7_rankFor_38 : decode cX7_rankFor 38 = .ok (.invokevirtual 83, 3) := by decide +kernel
theorem dX7_rankFor_41 : decode cX7_rankFor 41 = .ok (.imul, 1) := by decide +kernel
theorem dX7_rankFor_42 : decode cX7_rankFor 42 = .ok (.bipush 10, 2) := by decide +kernel
theorem dX7_rankFor_44 : decode cX7_rankFor 44 = .ok (.iload 4, 2) := by decide +kernel
theorem dX7_rankFor_46 : decode cX7_rankFor 46 = .ok (.imul, 1) := by decide +kernel
theorem dX7_rankFor_47 : decode cX7_rankFor 47 = .ok (.iadd, 1) := by decide +kernel
theorem dX7_rankFor_48 : decode cX7_rankFor 48 = .ok (.iload_n 2, 1) := by decide +kernel
theorem dX7_rankFor_49 : decode cX7_rankFor 49 = .ok (.iadd, 1) := by decide +kernel
theorem dX7_rankFor_50 : decode cX7_rankFor 50 = .ok (.ireturn, 1) := by decide +kernel
theorem dX7_bestFor_0 : decode cX7_bestFor 0 = .ok (.iconst (-1), 1) := by decide +kernel
theorem dX7_bestFor_1 : decode cX7_bestFor 1 = .ok (.istore_n 2, 1) := by decide +kernel
theorem dX7_bestFor_2 : decode cX7_bestFor 2 = .ok (.iconst 0, 1) := by decide +kernel
theorem dX7_bestFor_3 : decode cX7_bestFor 3 = .ok (.istore_n 3, 1) := by decide +kernel
theorem dX7_bestFor_4 : decode cX7_bestFor 4 = .ok (.iload_n 3, 1) := by decide +kernel
theorem dX7_bestFor_5 : decode cX7_bestFor 5 = .ok (.bipush 8, 2) := by decide +kernel
theorem dX7_bestFor_7 : decode cX7_bestFor 7 = .ok (.if_icmp .ge 88, 3) := by decide +kernel
theorem dX7_bestFor_10 : decode cX7_bestFor 10 = .ok (.aload_n 0, 1) := by decide +kernel
theorem dX7_bestFor_11 : decode cX7_bestFor 11 = .ok (.iload_n 1, 1) := by decide +kernel
theorem dX7_bestFor_12 : decode cX7_bestFor 12 = .ok (.iconst 3, 1) := by decide +kernel
theorem dX7_bestFor_13 : decode cX7_bestFor 13 = .ok (.invokevirtual 63, 3) := by decide +kernel
theorem dX7_bestFor_16 : decode cX7_bestFor 16 = .ok (.iconst (-1), 1) := by decide +kernel
theorem dX7_bestFor_17 : decode cX7_bestFor 17 = .ok (.if_icmp .ne 78, 3) := by decide +kernel
theorem dX7_bestFor_20 : decode cX7_bestFor 20 = .ok (.aload_n 0, 1) := by decide +kernel
theorem dX7_bestFor_21 : decode cX7_bestFor 21 = .ok (.iload_n 3, 1) := by decide +kernel
theorem dX7_bestFor_22 : decode cX7_bestFor 22 = .ok (.aload_n 0, 1) := by decide +kernel
theorem dX7_bestFor_23 : decode cX7_bestFor 23 = .ok (.iload_n 1, 1) := by decide +kernel
theorem dX7_bestFor_24 : decode cX7_bestFor 24 = .ok (.iconst 2, 1) := by decide +kernel
theorem dX7_bestFor_25 : decode cX7_bestFor 25 = .ok (.invokevirtual 63, 3) := by decide +kernel
theorem dX7_bestFor_28 : decode cX7_bestFor 28 = .ok (.invokevirtual 73, 3) := by decide +kernel
theorem dX7_bestFor_31 : decode cX7_bestFor 31 = .ok (.iconst 5, 1) := by decide +kernel
theorem dX7_bestFor_32 : decode cX7_bestFor 32 = .ok (.if_icmp .gt 27, 3) := by decide +kernel
theorem dX7_bestFor_35 : decode cX7_bestFor 35 = .ok (.aload_n 0, 1) := by decide +kernel
theorem dX7_bestFor_36 : decode cX7_bestFor 36 = .ok (.iload_n 3, 1) := by decide +kernel
theorem dX7_bestFor_37 : decode cX7_bestFor 37 = .ok (.aload_n 0, 1) := by decide +kernel
theorem dX7_bestFor_38 : decode cX7_bestFor 38 = .ok (.iload_n 1, 1) := by decide +kernel
theorem dX7_bestFor_39 : decode cX7_bestFor 39 = .ok (.iconst 0, 1) := by decide +kernel
theorem dX7_bestFor_40 : decode cX7_bestFor 40 = .ok (.invokevirtual 63, 3) := by decide +kernel
theorem dX7_bestFor_43 : decode cX7_bestFor 43 = .ok (.aload_n 0, 1) := by decide +kernel
theorem dX7_bestFor_44 : decode cX7_bestFor 44 = .ok (.getfield 7, 3) := by decide +kernel
theorem dX7_bestFor_47 : decode cX7_bestFor 47 = .ok (.iconst 0, 1) := by decide +kernel
theorem dX7_bestFor_48 : decode cX7_bestFor 48 = .ok (.iaload, 1) := by decide +kernel
theorem dX7_bestFor_49 : decode cX7_bestFor 49 = .ok (.invokevirtual 47, 3) := by decide +kernel
theorem dX7_bestFor_52 : decode cX7_bestFor 52 = .ok (.ifCond .ne 7, 3) := by decide +kernel
theorem dX7_bestFor_55 : decode cX7_bestFor 55 = .ok (.iconst 1, 1) := by decide +kernel
theorem dX7_bestFor_56 : decode cX7_bestFor 56 = .ok (.goto 4, 3) := by decide +kernel
theorem dX7_bestFor_59 : decode cX7_bestFor 59 = .ok (.iconst 0, 1) := by decide +kernel
theorem dX7_bestFor_60 : decode cX7_bestFor 60 = .ok (.istore 4, 2) := by decide +kernel
theorem dX7_bestFor_62 : decode cX7_bestFor 62 = .ok (.iload 4, 2) := by decide +kernel
theorem dX7_bestFor_64 : decode cX7_bestFor 64 = .ok (.ifCond .eq 25, 3) := by decide +kernel
theorem dX7_bestFor_67 : decode cX7_bestFor 67 = .ok (.iload_n 2, 1) := by decide +kernel
theorem dX7_bestFor_68 : decode cX7_bestFor 68 = .ok (.iconst (-1), 1) := by decide +kernel
theorem dX7_bestFor_69 : decode cX7_bestFor 69 = .ok (.if_icmp .eq 18, 3) := by decide +kernel
theorem dX7_bestFor_72 : decode cX7_bestFor 72 = .ok (.aload_n 0, 1) := by decide +kernel
theorem dX7_bestFor_73 : decode cX7_bestFor 73 = .ok (.iload_n 1, 1) := by decide +kernel
theorem dX7_bestFor_74 : decode cX7_bestFor 74 = .ok (.iload_n 3, 1) := by decide +kernel
theorem dX7_bestFor_75 : decode cX7_bestFor 75 = .ok (.invokevirtual 177, 3) := by decide +kernel
theorem dX7_bestFor_78 : decode cX7_bestFor 78 = .ok (.aload_n 0, 1) := by decide +kernel
theorem dX7_bestFor_79 : decode cX7_bestFor 79 = .ok (.iload_n 1, 1) := by decide +kernel
theorem dX7_bestFor_80 : decode cX7_bestFor 80 = .ok (.iload_n 2, 1) := by decide +kernel
theorem dX7_bestFor_81 : decode cX7_bestFor 81 = .ok (.invokevirtual 177, 3) := by decide +kernel
theorem dX7_bestFor_84 : decode cX7_bestFor 84 = .ok (.if_icmp .ge 5, 3) := by decide +kernel
theorem dX7_bestFor_87 : decode cX7_bestFor 87 = .ok (.iload_n 3, 1) := by decide +kernel
theorem dX7_bestFor_88 : decode cX7_bestFor 88 = .ok (.istore_n 2, 1) := by decide +kernel
theorem dX7_bestFor_89 : decode cX7_bestFor 89 = .ok (.iinc 3 1, 3) := by decide +kernel
theorem dX7_bestFor_92 : decode cX7_bestFor 92 = .ok (.goto (-88), 3) := by decide +kernel
theorem dX7_bestFor_95 : decode cX7_bestFor 95 = .ok (.iload_n 2, 1) := by decide +kernel
theorem dX7_bestFor_96 : decode cX7_bestFor 96 = .ok (.ireturn, 1) := by decide +kernel
theorem dX7_best_0 : decode cX7_best 0 = .ok (.aload_n 0, 1) := by decide +kernel
theorem dX7_best_1 : decode cX7_best 1 = .ok (.iconst 0, 1) := by decide +kernel
theorem dX7_best_2 : decode cX7_best 2 = .ok (.putfield 22, 3) := by decide +kernel
theorem dX7_best_5 : decode cX7_best 5 = .ok (.aload_n 0, 1) := by decide +kernel
theorem dX7_best_6 : decode cX7_best 6 = .ok (.iload_n 1, 1) := by decide +kernel
theorem dX7_best_7 : decode cX7_best 7 = .ok (.invokevirtual 115, 3) := by decide +kernel
theorem dX7_best_10 : decode cX7_best 10 = .ok (.ifCond .eq 11, 3) := by decide +kernel
theorem dX7_best_13 : decode cX7_best 13 = .ok (.aload_n 0, 1) := by decide +kernel
theorem dX7_best_14 : decode cX7_best 14 = .ok (.iload_n 1, 1) := by decide +kernel
theorem dX7_best_15 : decode cX7_best 15 = .ok (.invokevirtual 180, 3) := by decide +kernel
theorem dX7_best_18 : decode cX7_best 18 = .ok (.goto 8, 3) := by decide +kernel
theorem dX7_best_21 : decode cX7_best 21 = .ok (.aload_n 0, 1) := by decide +kernel
theorem dX7_best_22 : decode cX7_best 22 = .ok (.iconst 1, 1) := by decide +kernel
theorem dX7_best_23 : decode cX7_best 23 = .ok (.invokevirtual 33, 3) := by decide +kernel
theorem dX7_best_26 : decode cX7_best 26 = .ok (.ireturn, 1) := by decide +kernel
theorem dX7_cost_0 : decode cX7_cost 0 = .ok (.aload_n 0, 1) := by decide +kernel
theorem dX7_cost_1 : decode cX7_cost 1 = .ok (.iconst 0, 1) := by decide +kernel
theorem dX7_cost_2 : decode cX7_cost 2 = .ok (.putfield 22, 3) := by decide +kernel
theorem dX7_cost_5 : decode cX7_cost 5 = .ok (.iload_n 1, 1) := by decide +kernel
theorem dX7_cost_6 : decode cX7_cost 6 = .ok (.iconst 1, 1) := by decide +kernel
theorem dX7_cost_7 : decode cX7_cost 7 = .ok (.iconst 5, 1) := by decide +kernel
theorem dX7_cost_8 : decode cX7_cost 8 = .ok (.invokestatic 26, 3) := by decide +kernel
theorem dX7_cost_11 : decode cX7_cost 11 = .ok (.ifCond .eq 22, 3) := by decide +kernel
theorem dX7_cost_14 : decode cX7_cost 14 = .ok (.iload_n 2, 1) := by decide +kernel
theorem dX7_cost_15 : decode cX7_cost 15 = .ok (.iconst 1, 1) := by decide +kernel
theorem dX7_cost_16 : decode cX7_cost 16 = .ok (.bipush 60, 2) := by decide +kernel
theorem dX7_cost_18 : decode cX7_cost 18 = .ok (.invokestatic 26, 3) := by decide +kernel
theorem dX7_cost_21 : decode cX7_cost 21 = .ok (.ifCond .eq 12, 3) := by decide +kernel
theorem dX7_cost_24 : decode cX7_cost 24 = .ok (.aload_n 0, 1) := by decide +kernel
theorem dX7_cost_25 : decode cX7_cost 25 = .ok (.iload_n 1, 1) := by decide +kernel
theorem dX7_cost_26 : decode cX7_cost 26 = .ok (.iload_n 2, 1) := by decide +kernel
theorem dX7_cost_27 : decode cX7_cost 27 = .ok (.invokevirtual 112, 3) := by decide +kernel
theorem dX7_cost_30 : decode cX7_cost 30 = .ok (.goto 8, 3) := by decide +kernel
theorem dX7_cost_33 : decode cX7_cost 33 = .ok (.aload_n 0, 1) := by decide +kernel
theorem dX7_cost_34 : decode cX7_cost 34 = .ok (.iconst 1, 1) := by decide +kernel
theorem dX7_cost_35 : decode cX7_cost 35 = .ok (.invokevirtual 33, 3) := by decide +kernel
theorem dX7_cost_38 : decode cX7_cost 38 = .ok (.ireturn, 1) := by decide +kernel
theorem dX7_stoppedBy_0 : decode cX7_stoppedBy 0 = .ok (.iconst 0, 1) := by decide +kernel
theorem dX7_stoppedBy_1 : decode cX7_stoppedBy 1 = .ok (.istore_n 3, 1) := by decide +kernel
theorem dX7_stoppedBy_2 : decode cX7_stoppedBy 2 = .ok (.iconst 0, 1) := by decide +kernel
theorem dX7_stoppedBy_3 : decode cX7_stoppedBy 3 = .ok (.istore 4, 2) := by decide +kernel
theorem dX7_stoppedBy_5 : decode cX7_stoppedBy 5 = .ok (.iload 4, 2) := by decide +kernel
theorem dX7_stoppedBy_7 : decode cX7_stoppedBy 7 = .ok (.aload_n 0, 1) := by decide +kernel
theorem dX7_stoppedBy_8 : decode cX7_stoppedBy 8 = .ok (.getfield 7, 3) := by decide +kernel
theorem dX7_stoppedBy_11 : decode cX7_stoppedBy 11 = .ok (.iconst 4, 1) := by decide +kernel
theorem dX7_stoppedBy_12 : decode cX7_stoppedBy 12 = .ok (.iaload, 1) := by decide +kernel
theorem dX7_stoppedBy_13 : decode cX7_stoppedBy 13 = .ok (.if_icmp .ge 56, 3) := by decide +kernel
theorem dX7_stoppedBy_16 : decode cX7_stoppedBy 16 = .ok (.aload_n 0, 1) := by decide +kernel
theorem dX7_stoppedBy_17 : decode cX7_stoppedBy 17 = .ok (.iload 4, 2) := by decide +kernel
theorem dX7_stoppedBy_19 : decode cX7_stoppedBy 19 = .ok (.iconst 0, 1) := by decide +kernel
theorem dX7_stoppedBy_20 : decode cX7_stoppedBy 20 = .ok (.invokevirtual 63, 3) := by decide +kernel
theorem dX7_stoppedBy_23 : decode cX7_stoppedBy 23 = .ok (.invokestatic 44, 3) := by decide +kernel
theorem dX7_stoppedBy_26 : decode cX7_stoppedBy 26 = .ok (.iload_n 2, 1) := by decide +kernel
theorem dX7_stoppedBy_27 : decode cX7_stoppedBy 27 = .ok (.iand, 1) := by decide +kernel
theorem dX7_stoppedBy_28 : decode cX7_stoppedBy 28 = .ok (.ifCond .eq 7, 3) := by decide +kernel
theorem dX7_stoppedBy_31 : decode cX7_stoppedBy 31 = .ok (.iconst 1, 1) := by decide +kernel
theorem dX7_stoppedBy_32 : decode cX7_stoppedBy 32 = .ok (.goto 4, 3) := by decide +kernel
theorem dX7_stoppedBy_35 : decode cX7_stoppedBy 35 = .ok (.iconst 0, 1) := by decide +kernel
theorem dX7_stoppedBy_36 : decode cX7_stoppedBy 36 = .ok (.istore 5, 2) := by decide +kernel
theorem dX7_stoppedBy_38 : decode cX7_stoppedBy 38 = .ok (.iload_n 3, 1) := by decide +kernel
theorem dX7_stoppedBy_39 : decode cX7_stoppedBy 39 = .ok (.iload 5, 2) := by decide +kernel
theorem dX7_stoppedBy_41 : decode cX7_stoppedBy 41 = .ok (.ifCond .eq 19, 3) := by decide +kernel
theorem dX7_stoppedBy_44 : decode cX7_stoppedBy 44 = .ok (.aload_n 0, 1) := by decide +kernel
theorem dX7_stoppedBy_45 : decode cX7_stoppedBy 45 = .ok (.iload 4, 2) := by decide +kernel
theorem dX7_stoppedBy_47 : decode cX7_stoppedBy 47 = .ok (.invokevirtual 159, 3) := by decide +kernel
theorem dX7_stoppedBy_50 : decode cX7_stoppedBy 50 = .ok (.iconst 1, 1) := by decide +kernel
theorem dX7_stoppedBy_51 : decode cX7_stoppedBy 51 = .ok (.iload_n 1, 1) := by decide +kernel
theorem dX7_stoppedBy_52 : decode cX7_stoppedBy 52 = .ok (.ishl, 1) := by decide +kernel
theorem dX7_stoppedBy_53 : decode cX7_stoppedBy 53 = .ok (.if_icmp .ne 7, 3) := by decide +kernel
theorem dX7_stoppedBy_56 : decode cX7_stoppedBy 56 = .ok (.iconst 1, 1) := by decide +kernel
theorem dX7_stoppedBy_57 : decode cX7_stoppedBy 57 = .ok (.goto 4, 3) := by decide +kernel
theorem dX7_stoppedBy_60 : decode cX7_stoppedBy 60 = .ok (.iconst 0, 1) := by decide +kernel
theorem dX7_stoppedBy_61 : decode cX7_stoppedBy 61 = .ok (.iadd, 1) := by decide +kernel
theorem dX7_stoppedBy_62 : decode cX7_stoppedBy 62 = .ok (.istore_n 3, 1) := by decide +kernel
theorem dX7_stoppedBy_63 : decode cX7_stoppedBy 63 = .ok (.iinc 4 1, 3) := by decide +kernel
theorem dX7_stoppedBy_66 : decode cX7_stoppedBy 66 = .ok (.goto (-61), 3) := by decide +kernel
theorem dX7_stoppedBy_69 : decode cX7_stoppedBy 69 = .ok (.iload_n 3, 1) := by decide +kernel
theorem dX7_stoppedBy_70 : decode cX7_stoppedBy 70 = .ok (.ireturn, 1) := by decide +kernel
theorem dX7_ifHurt_0 : decode cX7_ifHurt 0 = .ok (.aload_n 0, 1) := by decide +kernel
theorem dX7_ifHurt_1 : decode cX7_ifHurt 1 = .ok (.iconst 0, 1) := by decide +kernel
theorem dX7_ifHurt_2 : decode cX7_ifHurt 2 = .ok (.putfield 22, 3) := by decide +kernel
theorem dX7_ifHurt_5 : decode cX7_ifHurt 5 = .ok (.iload_n 1, 1) := by decide +kernel
theorem dX7_ifHurt_6 : decode cX7_ifHurt 6 = .ok (.invokestatic 90, 3) := by decide +kernel
theorem dX7_ifHurt_9 : decode cX7_ifHurt 9 = .ok (.ifCond .ne 9, 3) := by decide +kernel
theorem dX7_ifHurt_12 : decode cX7_ifHurt 12 = .ok (.aload_n 0, 1) := by decide +kernel
theorem dX7_ifHurt_13 : decode cX7_ifHurt 13 = .ok (.iconst 1, 1) := by decide +kernel
theorem dX7_ifHurt_14 : decode cX7_ifHurt 14 = .ok (.invokevirtual 33, 3) := by decide +kernel
theorem dX7_ifHurt_17 : decode cX7_ifHurt 17 = .ok (.ireturn, 1) := by decide +kernel
theorem dX7_ifHurt_18 : decode cX7_ifHurt 18 = .ok (.iload_n 2, 1) := by decide +kernel
theorem dX7_ifHurt_19 : decode cX7_ifHurt 19 = .ok (.invokestatic 109, 3) := by decide +kernel
theorem dX7_ifHurt_22 : decode cX7_ifHurt 22 = .ok (.ifCond .eq 12, 3) := by decide +kernel
theorem dX7_ifHurt_25 : decode cX7_ifHurt 25 = .ok (.aload_n 0, 1) := by decide +kernel
theorem dX7_ifHurt_26 : decode cX7_ifHurt 26 = .ok (.iload_n 1, 1) := by decide +kernel
theorem dX7_ifHurt_27 : decode cX7_ifHurt 27 = .ok (.iload_n 2, 1) := by decide +kernel
theorem dX7_ifHurt_28 : decode cX7_ifHurt 28 = .ok (.invokevirtual 183, 3) := by decide +kernel
theorem dX7_ifHurt_31 : decode cX7_ifHurt 31 = .ok (.goto 8, 3) := by decide +kernel
theorem dX7_ifHurt_34 : decode cX7_ifHurt 34 = .ok (.aload_n 0, 1) := by decide +kernel
theorem dX7_ifHurt_35 : decode cX7_ifHurt 35 = .ok (.iconst 2, 1) := by decide +kernel
theorem dX7_ifHurt_36 : decode cX7_ifHurt 36 = .ok (.invokevirtual 33, 3) := by decide +kernel
theorem dX7_ifHurt_39 : decode cX7_ifHurt 39 = .ok (.ireturn, 1) := by decide +kernel
theorem dX7_share_0 : decode cX7_share 0 = .ok (.aload_n 0, 1) := by decide +kernel
theorem dX7_share_1 : decode cX7_share 1 = .ok (.getfield 7, 3) := by decide +kernel
theorem dX7_share_4 : decode cX7_share 4 = .ok (.iconst 4, 1) := by decide +kernel
theorem dX7_share_5 : decode cX7_share 5 = .ok (.iaload, 1) := by decide +kernel
theorem dX7_share_6 : decode cX7_share 6 = .ok (.ifCond .ne 7, 3) := by decide +kernel
theorem dX7_share_9 : decode cX7_share 9 = .ok (.dconst 1, 1) := by decide +kernel
theorem dX7_share_10 : decode cX7_share 10 = .ok (.goto 16, 3) := by decide +kernel
theorem dX7_share_13 : decode cX7_share 13 = .ok (.aload_n 0, 1) := by decide +kernel
theorem dX7_share_14 : decode cX7_share 14 = .ok (.invokevirtual 165, 3) := by decide +kernel
theorem dX7_share_17 : decode cX7_share 17 = .ok (.i2d, 1) := by decide +kernel
theorem dX7_share_18 : decode cX7_share 18 = .ok (.aload_n 0, 1) := by decide +kernel
theorem dX7_share_19 : decode cX7_share 19 = .ok (.getfield 7, 3) := by decide +kernel
theorem dX7_share_22 : decode cX7_share 22 = .ok (.iconst 4, 1) := by decide +kernel
theorem dX7_share_23 : decode cX7_share 23 = .ok (.iaload, 1) := by decide +kernel
theorem dX7_share_24 : decode cX7_share 24 = .ok (.i2d, 1) := by decide +kernel
theorem dX7_share_25 : decode cX7_share 25 = .ok (.ddiv, 1) := by decide +kernel
theorem dX7_share_26 : decode cX7_share 26 = .ok (.dreturn, 1) := by decide +kernel
theorem dX7_shotShare_0 : decode cX7_shotShare 0 = .ok (.aload_n 0, 1) := by decide +kernel
theorem dX7_shotShare_1 : decode cX7_shotShare 1 = .ok (.iconst 0, 1) := by decide +kernel
theorem dX7_shotShare_2 : decode cX7_shotShare 2 = .ok (.putfield 22, 3) := by decide +kernel
theorem dX7_shotShare_5 : decode cX7_shotShare 5 = .ok (.aload_n 0, 1) := by decide +kernel
theorem dX7_shotShare_6 : decode cX7_shotShare 6 = .ok (.invokevirtual 186, 3) := by decide +kernel
theorem dX7_shotShare_9 : decode cX7_shotShare 9 = .ok (.dreturn, 1) := by decide +kernel
theorem dX7_mix_0 : decode cX7_mix 0 = .ok (.aload_n 0, 1) := by decide +kernel
theorem dX7_mix_1 : decode cX7_mix 1 = .ok (.ldc2_w 190, 3) := by decide +kernel
theorem dX7_mix_4 : decode cX7_mix 4 = .ok (.aload_n 0, 1) := by decide +kernel
theorem dX7_mix_5 : decode cX7_mix 5 = .ok (.getfield 192, 3) := by decide +kernel
theorem dX7_mix_8 : decode cX7_mix 8 = .ok (.lmul, 1) := by decide +kernel
theorem dX7_mix_9 : decode cX7_mix 9 = .ok (.lload_n 1, 1) := by decide +kernel
theorem dX7_mix_10 : decode cX7_mix 10 = .ok (.ladd, 1) := by decide +kernel
theorem dX7_mix_11 : decode cX7_mix 11 = .ok (.putfield 192, 3) := by decide +kernel
theorem dX7_mix_14 : decode cX7_mix 14 = .ok (.return_, 1) := by decide +kernel
theorem dX7_mixPerson_0 : decode cX7_mixPerson 0 = .ok (.iconst 0, 1) := by decide +kernel
theorem dX7_mixPerson_1 : decode cX7_mixPerson 1 = .ok (.istore_n 2, 1) := by decide +kernel
theorem dX7_mixPerson_2 : decode cX7_mixPerson 2 = .ok (.iload_n 2, 1) := by decide +kernel
theorem dX7_mixPerson_3 : decode cX7_mixPerson 3 = .ok (.bipush 7, 2) := by decide +kernel
theorem dX7_mixPerson_5 : decode cX7_mixPerson 5 = .ok (.if_icmp .ge 20, 3) := by decide +kernel
theorem dX7_mixPerson_8 : decode cX7_mixPerson 8 = .ok (.aload_n 0, 1) := by decide +kernel
theorem dX7_mixPerson_9 : decode cX7_mixPerson 9 = .ok (.aload_n 0, 1) := by decide +kernel
theorem dX7_mixPerson_10 : decode cX7_mixPerson 10 = .ok (.iload_n 1, 1) := by decide +kernel
theorem dX7_mixPerson_11 : decode cX7_mixPerson 11 = .ok (.iload_n 2, 1) := by decide +kernel
theorem dX7_mixPerson_12 : decode cX7_mixPerson 12 = .ok (.invokevirtual 156, 3) := by decide +kernel
theorem dX7_mixPerson_15 : decode cX7_mixPerson 15 = .ok (.i2l, 1) := by decide +kernel
theorem dX7_mixPerson_16 : decode cX7_mixPerson 16 = .ok (.invokevirtual 196, 3) := by decide +kernel
theorem dX7_mixPerson_19 : decode cX7_mixPerson 19 = .ok (.iinc 2 1, 3) := by decide +kernel
theorem dX7_mixPerson_22 : decode cX7_mixPerson 22 = .ok (.goto (-20), 3) := by decide +kernel
theorem dX7_mixPerson_25 : decode cX7_mixPerson 25 = .ok (.iconst 0, 1) := by decide +kernel
theorem dX7_mixPerson_26 : decode cX7_mixPerson 26 = .ok (.istore_n 2, 1) := by decide +kernel
theorem dX7_mixPerson_27 : decode cX7_mixPerson 27 = .ok (.iload_n 2, 1) := by decide +kernel
theorem dX7_mixPerson_28 : decode cX7_mixPerson 28 = .ok (.bipush 6, 2) := by decide +kernel
theorem dX7_mixPerson_30 : decode cX7_mixPerson 30 = .ok (.if_icmp .ge 27, 3) := by decide +kernel
theorem dX7_mixPerson_33 : decode cX7_mixPerson 33 = .ok (.aload_n 0, 1) := by decide +kernel
theorem dX7_mixPerson_34 : decode cX7_mixPerson 34 = .ok (.aload_n 0, 1) := by decide +kernel
theorem dX7_mixPerson_35 : decode cX7_mixPerson 35 = .ok (.iload_n 1, 1) := by decide +kernel
theorem dX7_mixPerson_36 : decode cX7_mixPerson 36 = .ok (.iload_n 2, 1) := by decide +kernel
theorem dX7_mixPerson_37 : decode cX7_mixPerson 37 = .ok (.iconst 2, 1) := by decide +kernel
theorem dX7_mixPerson_38 : decode cX7_mixPerson 38 = .ok (.aload_n 0, 1) := by decide +kernel
theorem dX7_mixPerson_39 : decode cX7_mixPerson 39 = .ok (.getfield 7, 3) := by decide +kernel
theorem dX7_mixPerson_42 : decode cX7_mixPerson 42 = .ok (.iconst 0, 1) := by decide +kernel
theorem dX7_mixPerson_43 : decode cX7_mixPerson 43 = .ok (.iaload, 1) := by decide +kernel
theorem dX7_mixPerson_44 : decode cX7_mixPerson 44 = .ok (.invokevirtual 69, 3) := by decide +kernel
theorem dX7_mixPerson_47 : decode cX7_mixPerson 47 = .ok (.i2l, 1) := by decide +kernel
theorem dX7_mixPerson_48 : decode cX7_mixPerson 48 = .ok (.invokevirtual 196, 3) := by decide +kernel
theorem dX7_mixPerson_51 : decode cX7_mixPerson 51 = .ok (.iinc 2 1, 3) := by decide +kernel
theorem dX7_mixPerson_54 : decode cX7_mixPerson 54 = .ok (.goto (-27), 3) := by decide +kernel
theorem dX7_mixPerson_57 : decode cX7_mixPerson 57 = .ok (.aload_n 0, 1) := by decide +kernel
theorem dX7_mixPerson_58 : decode cX7_mixPerson 58 = .ok (.aload_n 0, 1) := by decide +kernel
theorem dX7_mixPerson_59 : decode cX7_mixPerson 59 = .ok (.iload_n 1, 1) := by decide +kernel
theorem dX7_mixPerson_60 : decode cX7_mixPerson 60 = .ok (.bipush 16, 2) := by decide +kernel
theorem dX7_mixPerson_62 : decode cX7_mixPerson 62 = .ok (.invokevirtual 183, 3) := by decide +kernel
theorem dX7_mixPerson_65 : decode cX7_mixPerson 65 = .ok (.i2l, 1) := by decide +kernel
theorem dX7_mixPerson_66 : decode cX7_mixPerson 66 = .ok (.invokevirtual 196, 3) := by decide +kernel
theorem dX7_mixPerson_69 : decode cX7_mixPerson 69 = .ok (.return_, 1) := by decide +kernel
theorem dX7_mixScene_0 : decode cX7_mixScene 0 = .ok (.iconst 0, 1) := by decide +kernel
theorem dX7_mixScene_1 : decode cX7_mixScene 1 = .ok (.istore_n 2, 1) := by decide +kernel
theorem dX7_mixScene_2 : decode cX7_mixScene 2 = .ok (.iload_n 2, 1) := by decide +kernel
theorem dX7_mixScene_3 : decode cX7_mixScene 3 = .ok (.bipush 6, 2) := by decide +kernel
theorem dX7_mixScene_5 : decode cX7_mixScene 5 = .ok (.if_icmp .ge 20, 3) := by decide +kernel
theorem dX7_mixScene_8 : decode cX7_mixScene 8 = .ok (.aload_n 0, 1) := by decide +kernel
theorem dX7_mixScene_9 : decode cX7_mixScene 9 = .ok (.aload_n 0, 1) := by decide +kernel
theorem dX7_mixScene_10 : decode cX7_mixScene 10 = .ok (.iload_n 1, 1) := by decide +kernel
theorem dX7_mixScene_11 : decode cX7_mixScene 11 = .ok (.iload_n 2, 1) := by decide +kernel
theorem dX7_mixScene_12 : decode cX7_mixScene 12 = .ok (.invokevirtual 162, 3) := by decide +kernel
theorem dX7_mixScene_15 : decode cX7_mixScene 15 = .ok (.i2l, 1) := by decide +kernel
theorem dX7_mixScene_16 : decode cX7_mixScene 16 = .ok (.invokevirtual 196, 3) := by decide +kernel
theorem dX7_mixScene_19 : decode cX7_mixScene 19 = .ok (.iinc 2 1, 3) := by decide +kernel
theorem dX7_mixScene_22 : decode cX7_mixScene 22 = .ok (.goto (-20), 3) := by decide +kernel
theorem dX7_mixScene_25 : decode cX7_mixScene 25 = .ok (.aload_n 0, 1) := by decide +kernel
theorem dX7_mixScene_26 : decode cX7_mixScene 26 = .ok (.aload_n 0, 1) := by decide +kernel
theorem dX7_mixScene_27 : decode cX7_mixScene 27 = .ok (.iload_n 1, 1) := by decide +kernel
theorem dX7_mixScene_28 : decode cX7_mixScene 28 = .ok (.invokevirtual 180, 3) := by decide +kernel
theorem dX7_mixScene_31 : decode cX7_mixScene 31 = .ok (.i2l, 1) := by decide +kernel
theorem dX7_mixScene_32 : decode cX7_mixScene 32 = .ok (.invokevirtual 196, 3) := by decide +kernel
theorem dX7_mixScene_35 : decode cX7_mixScene 35 = .ok (.iconst 0, 1) := by decide +kernel
theorem dX7_mixScene_36 : decode cX7_mixScene 36 = .ok (.istore_n 2, 1) := by decide +kernel
theorem dX7_mixScene_37 : decode cX7_mixScene 37 = .ok (.iload_n 2, 1) := by decide +kernel
theorem dX7_mixScene_38 : decode cX7_mixScene 38 = .ok (.bipush 8, 2) := by decide +kernel
theorem dX7_mixScene_40 : decode cX7_mixScene 40 = .ok (.if_icmp .ge 54, 3) := by decide +kernel
theorem dX7_mixScene_43 : decode cX7_mixScene 43 = .ok (.aload_n 0, 1) := by decide +kernel
theorem dX7_mixScene_44 : decode cX7_mixScene 44 = .ok (.aload_n 0, 1) := by decide +kernel
theorem dX7_mixScene_45 : decode cX7_mixScene 45 = .ok (.iload_n 1, 1) := by decide +kernel
theorem dX7_mixScene_46 : decode cX7_mixScene 46 = .ok (.iload_n 2, 1) := by decide +kernel
theorem dX7_mixScene_47 : decode cX7_mixScene 47 = .ok (.aload_n 0, 1) := by decide +kernel
theorem dX7_mixScene_48 : decode cX7_mixScene 48 = .ok (.getfield 7, 3) := by decide +kernel
theorem dX7_mixScene_51 : decode cX7_mixScene 51 = .ok (.iconst 0, 1) := by decide +kernel
theorem dX7_mixScene_52 : decode cX7_mixScene 52 = .ok (.iaload, 1) := by decide +kernel
theorem dX7_mixScene_53 : decode cX7_mixScene 53 = .ok (.invokevirtual 87, 3) := by decide +kernel
theorem dX7_mixScene_56 : decode cX7_mixScene 56 = .ok (.i2l, 1) := by decide +kernel
theorem dX7_mixScene_57 : decode cX7_mixScene 57 = .ok (.invokevirtual 196, 3) := by decide +kernel
theorem dX7_mixScene_60 : decode cX7_mixScene 60 = .ok (.aload_n 0, 1) := by decide +kernel
theorem dX7_mixScene_61 : decode cX7_mixScene 61 = .ok (.aload_n 0, 1) := by decide +kernel
theorem dX7_mixScene_62 : decode cX7_mixScene 62 = .ok (.iload_n 1, 1) := by decide +kernel
theorem dX7_mixScene_63 : decode cX7_mixScene 63 = .ok (.iload_n 2, 1) := by decide +kernel
theorem dX7_mixScene_64 : decode cX7_mixScene 64 = .ok (.aload_n 0, 1) := by decide +kernel
theorem dX7_mixScene_65 : decode cX7_mixScene 65 = .ok (.getfield 7, 3) := by decide +kernel
theorem dX7_mixScene_68 : decode cX7_mixScene 68 = .ok (.iconst 0, 1) := by decide +kernel
theorem dX7_mixScene_69 : decode cX7_mixScene 69 = .ok (.iaload, 1) := by decide +kernel
theorem dX7_mixScene_70 : decode cX7_mixScene 70 = .ok (.invokevirtual 83, 3) := by decide +kernel
theorem dX7_mixScene_73 : decode cX7_mixScene 73 = .ok (.i2l, 1) := by decide +kernel
theorem dX7_mixScene_74 : decode cX7_mixScene 74 = .ok (.invokevirtual 196, 3) := by decide +kernel
theorem dX7_mixScene_77 : decode cX7_mixScene 77 = .ok (.aload_n 0, 1) := by decide +kernel
theorem dX7_mixScene_78 : decode cX7_mixScene 78 = .ok (.aload_n 0, 1) := by decide +kernel
theorem dX7_mixScene_79 : decode cX7_mixScene 79 = .ok (.iload_n 1, 1) := by decide +kernel
theorem dX7_mixScene_80 : decode cX7_mixScene 80 = .ok (.iload_n 2, 1) := by decide +kernel
theorem dX7_mixScene_81 : decode cX7_mixScene 81 = .ok (.invokevirtual 174, 3) := by decide +kernel
theorem dX7_mixScene_84 : decode cX7_mixScene 84 = .ok (.i2l, 1) := by decide +kernel
theorem dX7_mixScene_85 : decode cX7_mixScene 85 = .ok (.invokevirtual 196, 3) := by decide +kernel
theorem dX7_mixScene_88 : decode cX7_mixScene 88 = .ok (.iinc 2 1, 3) := by decide +kernel
theorem dX7_mixScene_91 : decode cX7_mixScene 91 = .ok (.goto (-54), 3) := by decide +kernel
theorem dX7_mixScene_94 : decode cX7_mixScene 94 = .ok (.return_, 1) := by decide +kernel
theorem dX7_digest_0 : decode cX7_digest 0 = .ok (.aload_n 0, 1) := by decide +kernel
theorem dX7_digest_1 : decode cX7_digest 1 = .ok (.iconst 0, 1) := by decide +kernel
theorem dX7_digest_2 : decode cX7_digest 2 = .ok (.putfield 22, 3) := by decide +kernel
theorem dX7_digest_5 : decode cX7_digest 5 = .ok (.aload_n 0, 1) := by decide +kernel
theorem dX7_digest_6 : decode cX7_digest 6 = .ok (.ldc2_w 200, 3) := by decide +kernel
theorem dX7_digest_9 : decode cX7_digest 9 = .ok (.putfield 192, 3) := by decide +kernel
theorem dX7_digest_12 : decode cX7_digest 12 = .ok (.iconst 0, 1) := by decide +kernel
theorem dX7_digest_13 : decode cX7_digest 13 = .ok (.istore_n 1, 1) := by decide +kernel
theorem dX7_digest_14 : decode cX7_digest 14 = .ok (.iload_n 1, 1) := by decide +kernel
theorem dX7_digest_15 : decode cX7_digest 15 = .ok (.bipush 11, 2) := by decide +kernel
theorem dX7_digest_17 : decode cX7_digest 17 = .ok (.if_icmp .ge 19, 3) := by decide +kernel
theorem dX7_digest_20 : decode cX7_digest 20 = .ok (.aload_n 0, 1) := by decide +kernel
theorem dX7_digest_21 : decode cX7_digest 21 = .ok (.aload_n 0, 1) := by decide +kernel
theorem dX7_digest_22 : decode cX7_digest 22 = .ok (.iload_n 1, 1) := by decide +kernel
theorem dX7_digest_23 : decode cX7_digest 23 = .ok (.invokevirtual 171, 3) := by decide +kernel
theorem dX7_digest_26 : decode cX7_digest 26 = .ok (.i2l, 1) := by decide +kernel
theorem dX7_digest_27 : decode cX7_digest 27 = .ok (.invokevirtual 196, 3) := by decide +kernel
theorem dX7_digest_30 : decode cX7_digest 30 = .ok (.iinc 1 1, 3) := by decide +kernel
theorem dX7_digest_33 : decode cX7_digest 33 = .ok (.goto (-19), 3) := by decide +kernel
theorem dX7_digest_36 : decode cX7_digest 36 = .ok (.iconst 0, 1) := by decide +kernel
theorem dX7_digest_37 : decode cX7_digest 37 = .ok (.istore_n 1, 1) := by decide +kernel
theorem dX7_digest_38 : decode cX7_digest 38 = .ok (.iload_n 1, 1) := by decide +kernel
theorem dX7_digest_39 : decode cX7_digest 39 = .ok (.bipush 8, 2) := by decide +kernel
theorem dX7_digest_41 : decode cX7_digest 41 = .ok (.if_icmp .ge 14, 3) := by decide +kernel
theorem dX7_digest_44 : decode cX7_digest 44 = .ok (.aload_n 0, 1) := by decide +kernel
theorem dX7_digest_45 : decode cX7_digest 45 = .ok (.iload_n 1, 1) := by decide +kernel
theorem dX7_digest_46 : decode cX7_digest 46 = .ok (.invokevirtual 202, 3) := by decide +kernel
theorem dX7_digest_49 : decode cX7_digest 49 = .ok (.iinc 1 1, 3) := by decide +kernel
theorem dX7_digest_52 : decode cX7_digest 52 = .ok (.goto (-14), 3) := by decide +kernel
theorem dX7_digest_55 : decode cX7_digest 55 = .ok (.iconst 0, 1) := by decide +kernel
theorem dX7_digest_56 : decode cX7_digest 56 = .ok (.istore_n 1, 1) := by decide +kernel
theorem dX7_digest_57 : decode cX7_digest 57 = .ok (.iload_n 1, 1) := by decide +kernel
theorem dX7_digest_58 : decode cX7_digest 58 = .ok (.aload_n 0, 1) := by decide +kernel
theorem dX7_digest_59 : decode cX7_digest 59 = .ok (.getfield 7, 3) := by decide +kernel
theorem dX7_digest_62 : decode cX7_digest 62 = .ok (.iconst 4, 1) := by decide +kernel
theorem dX7_digest_63 : decode cX7_digest 63 = .ok (.iaload, 1) := by decide +kernel
theorem dX7_digest_64 : decode cX7_digest 64 = .ok (.if_icmp .ge 14, 3) := by decide +kernel
theorem dX7_digest_67 : decode cX7_digest 67 = .ok (.aload_n 0, 1) := by decide +kernel
theorem dX7_digest_68 : decode cX7_digest 68 = .ok (.iload_n 1, 1) := by decide +kernel
theorem dX7_digest_69 : decode cX7_digest 69 = .ok (.invokevirtual 206, 3) := by decide +kernel
theorem dX7_digest_72 : decode cX7_digest 72 = .ok (.iinc 1 1, 3) := by decide +kernel
theorem dX7_digest_75 : decode cX7_digest 75 = .ok (.goto (-18), 3) := by decide +kernel
theorem dX7_digest_78 : decode cX7_digest 78 = .ok (.aload_n 0, 1) := by decide +kernel
theorem dX7_digest_79 : decode cX7_digest 79 = .ok (.aload_n 0, 1) := by decide +kernel
theorem dX7_digest_80 : decode cX7_digest 80 = .ok (.iconst 3, 1) := by decide +kernel
theorem dX7_digest_81 : decode cX7_digest 81 = .ok (.bipush 10, 2) := by decide +kernel
theorem dX7_digest_83 : decode cX7_digest 83 = .ok (.invokevirtual 112, 3) := by decide +kernel
theorem dX7_digest_86 : decode cX7_digest 86 = .ok (.i2l, 1) := by decide +kernel
theorem dX7_digest_87 : decode cX7_digest 87 = .ok (.invokevirtual 196, 3) := by decide +kernel
theorem dX7_digest_90 : decode cX7_digest 90 = .ok (.aload_n 0, 1) := by decide +kernel
theorem dX7_digest_91 : decode cX7_digest 91 = .ok (.aload_n 0, 1) := by decide +kernel
theorem dX7_digest_92 : decode cX7_digest 92 = .ok (.invokevirtual 186, 3) := by decide +kernel
theorem dX7_digest_95 : decode cX7_digest 95 = .ok (.invokestatic 209, 3) := by decide +kernel
theorem dX7_digest_98 : decode cX7_digest 98 = .ok (.invokevirtual 196, 3) := by decide +kernel
theorem dX7_digest_101 : decode cX7_digest 101 = .ok (.aload_n 0, 1) := by decide +kernel
theorem dX7_digest_102 : decode cX7_digest 102 = .ok (.aload_n 0, 1) := by decide +kernel
theorem dX7_digest_103 : decode cX7_digest 103 = .ok (.getfield 121, 3) := by decide +kernel
theorem dX7_digest_106 : decode cX7_digest 106 = .ok (.i2l, 1) := by decide +kernel
theorem dX7_digest_107 : decode cX7_digest 107 = .ok (.invokevirtual 196, 3) := by decide +kernel
theorem dX7_digest_110 : decode cX7_digest 110 = .ok (.iconst 0, 1) := by decide +kernel
theorem dX7_digest_111 : decode cX7_digest 111 = .ok (.istore_n 1, 1) := by decide +kernel
theorem dX7_digest_112 : decode cX7_digest 112 = .ok (.iload_n 1, 1) := by decide +kernel
theorem dX7_digest_113 : decode cX7_digest 113 = .ok (.aload_n 0, 1) := by decide +kernel
theorem dX7_digest_114 : decode cX7_digest 114 = .ok (.getfield 121, 3) := by decide +kernel
theorem dX7_digest_117 : decode cX7_digest 117 = .ok (.if_icmp .ge 20, 3) := by decide +kernel
theorem dX7_digest_120 : decode cX7_digest 120 = .ok (.aload_n 0, 1) := by decide +kernel
theorem dX7_digest_121 : decode cX7_digest 121 = .ok (.aload_n 0, 1) := by decide +kernel
theorem dX7_digest_122 : decode cX7_digest 122 = .ok (.getfield 16, 3) := by decide +kernel
theorem dX7_digest_125 : decode cX7_digest 125 = .ok (.iload_n 1, 1) := by decide +kernel
theorem dX7_digest_126 : decode cX7_digest 126 = .ok (.iaload, 1) := by decide +kernel
theorem dX7_digest_127 : decode cX7_digest 127 = .ok (.i2l, 1) := by decide +kernel
theorem dX7_digest_128 : decode cX7_digest 128 = .ok (.invokevirtual 196, 3) := by decide +kernel
theorem dX7_digest_131 : decode cX7_digest 131 = .ok (.iinc 1 1, 3) := by decide +kernel
theorem dX7_digest_134 : decode cX7_digest 134 = .ok (.goto (-22), 3) := by decide +kernel
theorem dX7_digest_137 : decode cX7_digest 137 = .ok (.aload_n 0, 1) := by decide +kernel
theorem dX7_digest_138 : decode cX7_digest 138 = .ok (.getfield 192, 3) := by decide +kernel
theorem dX7_digest_141 : decode cX7_digest 141 = .ok (.lreturn, 1) := by decide +kernel
end
section
theorem dL_size_0 : decode cL_size 0 = .ok (.aload_n 3, 1) := by decide +kernel
theorem dL_size_1 : decode cL_size 1 = .ok (.iconst 0, 1) := by decide +kernel
theorem dL_size_2 : decode cL_size 2 = .ok (.aload_n 0, 1) := by decide +kernel
theorem dL_size_3 : decode cL_size 3 = .ok (.iload_n 1, 1) := by decide +kernel
theorem dL_size_4 : decode cL_size 4 = .ok (.iload_n 2, 1) := by decide +kernel
theorem dL_size_5 : decode cL_size 5 = .ok (.invokevirtual 7, 3) := by decide +kernel
theorem dL_size_8 : decode cL_size 8 = .ok (.i2l, 1) := by decide +kernel
theorem dL_size_9 : decode cL_size 9 = .ok (.lastore, 1) := by decide +kernel
theorem dL_size_10 : decode cL_size 10 = .ok (.goto 11, 3) := by decide +kernel
theorem dL_size_13 : decode cL_size 13 = .ok (.astore 4, 2) := by decide +kernel
theorem dL_size_15 : decode cL_size 15 = .ok (.iconst 1, 1) := by decide +kernel
theorem dL_size_16 : decode cL_size 16 = .ok (.ireturn, 1) := by decide +kernel
theorem dL_size_17 : decode cL_size 17 = .ok (.astore 4, 2) := by decide +kernel
theorem dL_size_19 : decode cL_size 19 = .ok (.iconst 2, 1) := by decide +kernel
theorem dL_size_20 : decode cL_size 20 = .ok (.ireturn, 1) := by decide +kernel
theorem dL_size_21 : decode cL_size 21 = .ok (.iconst 0, 1) := by decide +kernel
theorem dL_size_22 : decode cL_size 22 = .ok (.ireturn, 1) := by decide +kernel
theorem dL_pass_0 : decode cL_pass 0 = .ok (.aload_n 2, 1) := by decide +kernel
theorem dL_pass_1 : decode cL_pass 1 = .ok (.iconst 0, 1) := by decide +kernel
theorem dL_pass_2 : decode cL_pass 2 = .ok (.aload_n 0, 1) := by decide +kernel
theorem dL_pass_3 : decode cL_pass 3 = .ok (.iload_n 1, 1) := by decide +kernel
theorem dL_pass_4 : decode cL_pass 4 = .ok (.invokevirtual 17, 3) := by decide +kernel
theorem dL_pass_7 : decode cL_pass 7 = .ok (.i2l, 1) := by decide +kernel
theorem dL_pass_8 : decode cL_pass 8 = .ok (.lastore, 1) := by decide +kernel
theorem dL_pass_9 : decode cL_pass 9 = .ok (.goto 9, 3) := by decide +kernel
theorem dL_pass_12 : decode cL_pass 12 = .ok (.astore_n 3, 1) := by decide +kernel
theorem dL_pass_13 : decode cL_pass 13 = .ok (.iconst 1, 1) := by decide +kernel
theorem dL_pass_14 : decode cL_pass 14 = .ok (.ireturn, 1) := by decide +kernel
theorem dL_pass_15 : decode cL_pass 15 = .ok (.astore_n 3, 1) := by decide +kernel
theorem dL_pass_16 : decode cL_pass 16 = .ok (.iconst 2, 1) := by decide +kernel
theorem dL_pass_17 : decode cL_pass 17 = .ok (.ireturn, 1) := by decide +kernel
theorem dL_pass_18 : decode cL_pass 18 = .ok (.iconst 0, 1) := by decide +kernel
theorem dL_pass_19 : decode cL_pass 19 = .ok (.ireturn, 1) := by decide +kernel
theorem dL_rehearse_0 : decode cL_rehearse 0 = .ok (.aload 4, 2) := by decide +kernel
theorem dL_rehearse_2 : decode cL_rehearse 2 = .ok (.iconst 0, 1) := by decide +kernel
theorem dL_rehearse_3 : decode cL_rehearse 3 = .ok (.aload_n 0, 1) := by decide +kernel
theorem dL_rehearse_4 : decode cL_rehearse 4 = .ok (.iload_n 1, 1) := by decide +kernel
theorem dL_rehearse_5 : decode cL_rehearse 5 = .ok (.iload_n 2, 1) := by decide +kernel
theorem dL_rehearse_6 : decode cL_rehearse 6 = .ok (.iload_n 3, 1) := by decide +kernel
theorem dL_rehearse_7 : decode cL_rehearse 7 = .ok (.invokevirtual 23, 3) := by decide +kernel
theorem dL_rehearse_10 : decode cL_rehearse 10 = .ok (.i2l, 1) := by decide +kernel
theorem dL_rehearse_11 : decode cL_rehearse 11 = .ok (.lastore, 1) := by decide +kernel
theorem dL_rehearse_12 : decode cL_rehearse 12 = .ok (.goto 15, 3) := by decide +kernel
theorem dL_rehearse_15 : decode cL_rehearse 15 = .ok (.astore 5, 2) := by decide +kernel
theorem dL_rehearse_17 : decode cL_rehearse 17 = .ok (.iconst 1, 1) := by decide +kernel
theorem dL_rehearse_18 : decode cL_rehearse 18 = .ok (.ireturn, 1) := by decide +kernel
theorem dL_rehearse_19 : decode cL_rehearse 19 = .ok (.astore 5, 2) := by decide +kernel
theorem dL_rehearse_21 : decode cL_rehearse 21 = .ok (.iconst 2, 1) := by decide +kernel
theorem dL_rehearse_22 : decode cL_rehearse 22 = .ok (.ireturn, 1) := by decide +kernel
theorem dL_rehearse_23 : decode cL_rehearse 23 = .ok (.astore 5, 2) := by decide +kernel
theorem dL_rehearse_25 : decode cL_rehearse 25 = .ok (.iconst 3, 1) := by decide +kernel
theorem dL_rehearse_26 : decode cL_rehearse 26 = .ok (.ireturn, 1) := by decide +kernel
theorem dL_rehearse_27 : decode cL_rehearse 27 = .ok (.iconst 0, 1) := by decide +kernel
theorem dL_rehearse_28 : decode cL_rehearse 28 = .ok (.ireturn, 1) := by decide +kernel
theorem dL_hurt_0 : decode cL_hurt 0 = .ok (.aload 4, 2) := by decide +kernel
theorem dL_hurt_2 : decode cL_hurt 2 = .ok (.iconst 0, 1) := by decide +kernel
theorem dL_hurt_3 : decode cL_hurt 3 = .ok (.aload_n 0, 1) := by decide +kernel
theorem dL_hurt_4 : decode cL_hurt 4 = .ok (.iload_n 1, 1) := by decide +kernel
theorem dL_hurt_5 : decode cL_hurt 5 = .ok (.iload_n 2, 1) := by decide +kernel
theorem dL_hurt_6 : decode cL_hurt 6 = .ok (.iload_n 3, 1) := by decide +kernel
theorem dL_hurt_7 : decode cL_hurt 7 = .ok (.invokevirtual 27, 3) := by decide +kernel
theorem dL_hurt_10 : decode cL_hurt 10 = .ok (.i2l, 1) := by decide +kernel
theorem dL_hurt_11 : decode cL_hurt 11 = .ok (.lastore, 1) := by decide +kernel
theorem dL_hurt_12 : decode cL_hurt 12 = .ok (.goto 11, 3) := by decide +kernel
theorem dL_hurt_15 : decode cL_hurt 15 = .ok (.astore 5, 2) := by decide +kernel
theorem dL_hurt_17 : decode cL_hurt 17 = .ok (.iconst 1, 1) := by decide +kernel
theorem dL_hurt_18 : decode cL_hurt 18 = .ok (.ireturn, 1) := by decide +kernel
theorem dL_hurt_19 : decode cL_hurt 19 = .ok (.astore 5, 2) := by decide +kernel
theorem dL_hurt_21 : decode cL_hurt 21 = .ok (.iconst 2, 1) := by decide +kernel
theorem dL_hurt_22 : decode cL_hurt 22 = .ok (.ireturn, 1) := by decide +kernel
theorem dL_hurt_23 : decode cL_hurt 23 = .ok (.iconst 0, 1) := by decide +kernel
theorem dL_hurt_24 : decode cL_hurt 24 = .ok (.ireturn, 1) := by decide +kernel
theorem dL_insure_0 : decode cL_insure 0 = .ok (.aload_n 3, 1) := by decide +kernel
theorem dL_insure_1 : decode cL_insure 1 = .ok (.iconst 0, 1) := by decide +kernel
theorem dL_insure_2 : decode cL_insure 2 = .ok (.aload_n 0, 1) := by decide +kernel
theorem dL_insure_3 : decode cL_insure 3 = .ok (.iload_n 1, 1) := by decide +kernel
theorem dL_insure_4 : decode cL_insure 4 = .ok (.iload_n 2, 1) := by decide +kernel
theorem dL_insure_5 : decode cL_insure 5 = .ok (.invokevirtual 30, 3) := by decide +kernel
theorem dL_insure_8 : decode cL_insure 8 = .ok (.i2l, 1) := by decide +kernel
theorem dL_insure_9 : decode cL_insure 9 = .ok (.lastore, 1) := by decide +kernel
theorem dL_insure_10 : decode cL_insure 10 = .ok (.goto 11, 3) := by decide +kernel
theorem dL_insure_13 : decode cL_insure 13 = .ok (.astore 4, 2) := by decide +kernel
theorem dL_insure_15 : decode cL_insure 15 = .ok (.iconst 1, 1) := by decide +kernel
theorem dL_insure_16 : decode cL_insure 16 = .ok (.ireturn, 1) := by decide +kernel
theorem dL_insure_17 : decode cL_insure 17 = .ok (.astore 4, 2) := by decide +kernel
theorem dL_insure_19 : decode cL_insure 19 = .ok (.iconst 2, 1) := by decide +kernel
theorem dL_insure_20 : decode cL_insure 20 = .ok (.ireturn, 1) := by decide +kernel
theorem dL_insure_21 : decode cL_insure 21 = .ok (.iconst 0, 1) := by decide +kernel
theorem dL_insure_22 : decode cL_insure 22 = .ok (.ireturn, 1) := by decide +kernel
theorem dL_scene_0 : decode cL_scene 0 = .ok (.aload 4, 2) := by decide +kernel
theorem dL_scene_2 : decode cL_scene 2 = .ok (.iconst 0, 1) := by decide +kernel
theorem dL_scene_3 : decode cL_scene 3 = .ok (.aload_n 0, 1) := by decide +kernel
theorem dL_scene_4 : decode cL_scene 4 = .ok (.iload_n 1, 1) := by decide +kernel
theorem dL_scene_5 : decode cL_scene 5 = .ok (.iload_n 2, 1) := by decide +kernel
theorem dL_scene_6 : decode cL_scene 6 = .ok (.iload_n 3, 1) := by decide +kernel
theorem dL_scene_7 : decode cL_scene 7 = .ok (.invokevirtual 33, 3) := by decide +kernel
theorem dL_scene_10 : decode cL_scene 10 = .ok (.i2l, 1) := by decide +kernel
theorem dL_scene_11 : decode cL_scene 11 = .ok (.lastore, 1) := by decide +kernel
theorem dL_scene_12 : decode cL_scene 12 = .ok (.goto 15, 3) := by decide +kernel
theorem dL_scene_15 : decode cL_scene 15 = .ok (.astore 5, 2) := by decide +kernel
theorem dL_scene_17 : decode cL_scene 17 = .ok (.iconst 1, 1) := by decide +kernel
theorem dL_scene_18 : decode cL_scene 18 = .ok (.ireturn, 1) := by decide +kernel
theorem dL_scene_19 : decode cL_scene 19 = .ok (.astore 5, 2) := by decide +kernel
theorem dL_scene_21 : decode cL_scene 21 = .ok (.iconst 2, 1) := by decide +kernel
theorem dL_scene_22 : decode cL_scene 22 = .ok (.ireturn, 1) := by decide +kernel
theorem dL_scene_23 : decode cL_scene 23 = .ok (.astore 5, 2) := by decide +kernel
theorem dL_scene_25 : decode cL_scene 25 = .ok (.iconst 3, 1) := by decide +kernel
theorem dL_scene_26 : decode cL_scene 26 = .ok (.ireturn, 1) := by decide +kernel
theorem dL_scene_27 : decode cL_scene 27 = .ok (.iconst 0, 1) := by decide +kernel
theorem dL_scene_28 : decode cL_scene 28 = .ok (.ireturn, 1) := by decide +kernel
theorem dL_shoot_0 : decode cL_shoot 0 = .ok (.aload_n 3, 1) := by decide +kernel
theorem dL_shoot_1 : decode cL_shoot 1 = .ok (.iconst 0, 1) := by decide +kernel
theorem dL_shoot_2 : decode cL_shoot 2 = .ok (.aload_n 0, 1) := by decide +kernel
theorem dL_shoot_3 : decode cL_shoot 3 = .ok (.iload_n 1, 1) := by decide +kernel
theorem dL_shoot_4 : decode cL_shoot 4 = .ok (.iload_n 2, 1) := by decide +kernel
theorem dL_shoot_5 : decode cL_shoot 5 = .ok (.invokevirtual 36, 3) := by decide +kernel
theorem dL_shoot_8 : decode cL_shoot 8 = .ok (.i2l, 1) := by decide +kernel
theorem dL_shoot_9 : decode cL_shoot 9 = .ok (.lastore, 1) := by decide +kernel
theorem dL_shoot_10 : decode cL_shoot 10 = .ok (.goto 11, 3) := by decide +kernel
theorem dL_shoot_13 : decode cL_shoot 13 = .ok (.astore 4, 2) := by decide +kernel
theorem dL_shoot_15 : decode cL_shoot 15 = .ok (.iconst 1, 1) := by decide +kernel
theorem dL_shoot_16 : decode cL_shoot 16 = .ok (.ireturn, 1) := by decide +kernel
theorem dL_shoot_17 : decode cL_shoot 17 = .ok (.astore 4, 2) := by decide +kernel
theorem dL_shoot_19 : decode cL_shoot 19 = .ok (.iconst 2, 1) := by decide +kernel
theorem dL_shoot_20 : decode cL_shoot 20 = .ok (.ireturn, 1) := by decide +kernel
theorem dL_shoot_21 : decode cL_shoot 21 = .ok (.iconst 0, 1) := by decide +kernel
theorem dL_shoot_22 : decode cL_shoot 22 = .ok (.ireturn, 1) := by decide +kernel
theorem dL_append_0 : decode cL_append 0 = .ok (.aload_n 2, 1) := by decide +kernel
theorem dL_append_1 : decode cL_append 1 = .ok (.iconst 0, 1) := by decide +kernel
theorem dL_append_2 : decode cL_append 2 = .ok (.aload_n 0, 1) := by decide +kernel
theorem dL_append_3 : decode cL_append 3 = .ok (.iload_n 1, 1) := by decide +kernel
theorem dL_append_4 : decode cL_append 4 = .ok (.invokevirtual 39, 3) := by decide +kernel
theorem dL_append_7 : decode cL_append 7 = .ok (.i2l, 1) := by decide +kernel
theorem dL_append_8 : decode cL_append 8 = .ok (.lastore, 1) := by decide +kernel
theorem dL_append_9 : decode cL_append 9 = .ok (.goto 9, 3) := by decide +kernel
theorem dL_append_12 : decode cL_append 12 = .ok (.astore_n 3, 1) := by decide +kernel
theorem dL_append_13 : decode cL_append 13 = .ok (.iconst 1, 1) := by decide +kernel
theorem dL_append_14 : decode cL_append 14 = .ok (.ireturn, 1) := by decide +kernel
theorem dL_append_15 : decode cL_append 15 = .ok (.astore_n 3, 1) := by decide +kernel
theorem dL_append_16 : decode cL_append 16 = .ok (.iconst 2, 1) := by decide +kernel
theorem dL_append_17 : decode cL_append 17 = .ok (.ireturn, 1) := by decide +kernel
theorem dL_append_18 : decode cL_append 18 = .ok (.iconst 0, 1) := by decide +kernel
theorem dL_append_19 : decode cL_append 19 = .ok (.ireturn, 1) := by decide +kernel
theorem dL_play_0 : decode cL_play 0 = .ok (.aload_n 1, 1) := by decide +kernel
theorem dL_play_1 : decode cL_play 1 = .ok (.iconst 0, 1) := by decide +kernel
theorem dL_play_2 : decode cL_play 2 = .ok (.aload_n 0, 1) := by decide +kernel
theorem dL_play_3 : decode cL_play 3 = .ok (.invokevirtual 42, 3) := by decide +kernel
theorem dL_play_6 : decode cL_play 6 = .ok (.i2l, 1) := by decide +kernel
theorem dL_play_7 : decode cL_play 7 = .ok (.lastore, 1) := by decide +kernel
theorem dL_play_8 : decode cL_play 8 = .ok (.goto 6, 3) := by decide +kernel
theorem dL_play_11 : decode cL_play 11 = .ok (.astore_n 2, 1) := by decide +kernel
theorem dL_play_12 : decode cL_play 12 = .ok (.iconst 1, 1) := by decide +kernel
theorem dL_play_13 : decode cL_play 13 = .ok (.ireturn, 1) := by decide +kernel
theorem dL_play_14 : decode cL_play 14 = .ok (.iconst 0, 1) := by decide +kernel
theorem dL_play_15 : decode cL_play 15 = .ok (.ireturn, 1) := by decide +kernel
theorem dL_undo_0 : decode cL_undo 0 = .ok (.aload_n 1, 1) := by decide +kernel
theorem dL_undo_1 : decode cL_undo 1 = .ok (.iconst 0, 1) := by decide +kernel
theorem dL_undo_2 : decode cL_undo 2 = .ok (.aload_n 0, 1) := by decide +kernel
theorem dL_undo_3 : decode cL_undo 3 = .ok (.invokevirtual 46, 3) := by decide +kernel
theorem dL_undo_6 : decode cL_undo 6 = .ok (.i2l, 1) := by decide +kernel
theorem dL_undo_7 : decode cL_undo 7 = .ok (.lastore, 1) := by decide +kernel
theorem dL_undo_8 : decode cL_undo 8 = .ok (.goto 6, 3) := by decide +kernel
theorem dL_undo_11 : decode cL_undo 11 = .ok (.astore_n 2, 1) := by decide +kernel
theorem dL_undo_12 : decode cL_undo 12 = .ok (.iconst 1, 1) := by decide +kernel
theorem dL_undo_13 : decode cL_undo 13 = .ok (.ireturn, 1) := by decide +kernel
theorem dL_undo_14 : decode cL_undo 14 = .ok (.iconst 0, 1) := by decide +kernel
theorem dL_undo_15 : decode cL_undo 15 = .ok (.ireturn, 1) := by decide +kernel
theorem dL_person_0 : decode cL_person 0 = .ok (.aload_n 3, 1) := by decide +kernel
theorem dL_person_1 : decode cL_person 1 = .ok (.iconst 0, 1) := by decide +kernel
theorem dL_person_2 : decode cL_person 2 = .ok (.aload_n 0, 1) := by decide +kernel
theorem dL_person_3 : decode cL_person 3 = .ok (.iload_n 1, 1) := by decide +kernel
theorem dL_person_4 : decode cL_person 4 = .ok (.iload_n 2, 1) := by decide +kernel
theorem dL_person_5 : decode cL_person 5 = .ok (.invokevirtual 49, 3) := by decide +kernel
theorem dL_person_8 : decode cL_person 8 = .ok (.i2l, 1) := by decide +kernel
theorem dL_person_9 : decode cL_person 9 = .ok (.lastore, 1) := by decide +kernel
theorem dL_person_10 : decode cL_person 10 = .ok (.goto 11, 3) := by decide +kernel
theorem dL_person_13 : decode cL_person 13 = .ok (.astore 4, 2) := by decide +kernel
theorem dL_person_15 : decode cL_person 15 = .ok (.iconst 1, 1) := by decide +kernel
theorem dL_person_16 : decode cL_person 16 = .ok (.ireturn, 1) := by decide +kernel
theorem dL_person_17 : decode cL_person 17 = .ok (.astore 4, 2) := by decide +kernel
theorem dL_person_19 : decode cL_person 19 = .ok (.iconst 2, 1) := by decide +kernel
theorem dL_person_20 : decode cL_person 20 = .ok (.ireturn, 1) := by decide +kernel
theorem dL_person_21 : decode cL_person 21 = .ok (.iconst 0, 1) := by decide +kernel
theorem dL_person_22 : decode cL_person 22 = .ok (.ireturn, 1) := by decide +kernel
theorem dL_rehearsed_0 : decode cL_rehearsed 0 = .ok (.aload 4, 2) := by decide +kernel
theorem dL_rehearsed_2 : decode cL_rehearsed 2 = .ok (.iconst 0, 1) := by decide +kernel
theorem dL_rehearsed_3 : decode cL_rehearsed 3 = .ok (.aload_n 0, 1) := by decide +kernel
theorem dL_rehearsed_4 : decode cL_rehearsed 4 = .ok (.iload_n 1, 1) := by decide +kernel
theorem dL_rehearsed_5 : decode cL_rehearsed 5 = .ok (.iload_n 2, 1) := by decide +kernel
theorem dL_rehearsed_6 : decode cL_rehearsed 6 = .ok (.iload_n 3, 1) := by decide +kernel
theorem dL_rehearsed_7 : decode cL_rehearsed 7 = .ok (.invokevirtual 52, 3) := by decide +kernel
theorem dL_rehearsed_10 : decode cL_rehearsed 10 = .ok (.i2l, 1) := by decide +kernel
theorem dL_rehearsed_11 : decode cL_rehearsed 11 = .ok (.lastore, 1) := by decide +kernel
theorem dL_rehearsed_12 : decode cL_rehearsed 12 = .ok (.goto 11, 3) := by decide +kernel
theorem dL_rehearsed_15 : decode cL_rehearsed 15 = .ok (.astore 5, 2) := by decide +kernel
theorem dL_rehearsed_17 : decode cL_rehearsed 17 = .ok (.iconst 1, 1) := by decide +kernel
theorem dL_rehearsed_18 : decode cL_rehearsed 18 = .ok (.ireturn, 1) := by decide +kernel
theorem dL_rehearsed_19 : decode cL_rehearsed 19 = .ok (.astore 5, 2) := by decide +kernel
theorem dL_rehearsed_21 : decode cL_rehearsed 21 = .ok (.iconst 2, 1) := by decide +kernel
theorem dL_rehearsed_22 : decode cL_rehearsed 22 = .ok (.ireturn, 1) := by decide +kernel
theorem dL_rehearsed_23 : decode cL_rehearsed 23 = .ok (.iconst 0, 1) := by decide +kernel
theorem dL_rehearsed_24 : decode cL_rehearsed 24 = .ok (.ireturn, 1) := by decide +kernel
theorem dL_kind_0 : decode cL_kind 0 = .ok (.aload 4, 2) := by decide +kernel
theorem dL_kind_2 : decode cL_kind 2 = .ok (.iconst 0, 1) := by decide +kernel
theorem dL_kind_3 : decode cL_kind 3 = .ok (.aload_n 0, 1) := by decide +kernel
theorem dL_kind_4 : decode cL_kind 4 = .ok (.iload_n 1, 1) := by decide +kernel
theorem dL_kind_5 : decode cL_kind 5 = .ok (.iload_n 2, 1) := by decide +kernel
theorem dL_kind_6 : decode cL_kind 6 = .ok (.iload_n 3, 1) := by decide +kernel
theorem dL_kind_7 : decode cL_kind 7 = .ok (.invokevirtual 55, 3) := by decide +kernel
theorem dL_kind_10 : decode cL_kind 10 = .ok (.i2l, 1) := by decide +kernel
theorem dL_kind_11 : decode cL_kind 11 = .ok (.lastore, 1) := by decide +kernel
theorem dL_kind_12 : decode cL_kind 12 = .ok (.goto 11, 3) := by decide +kernel
theorem dL_kind_15 : decode cL_kind 15 = .ok (.astore 5, 2) := by decide +kernel
theorem dL_kind_17 : decode cL_kind 17 = .ok (.iconst 1, 1) := by decide +kernel
theorem dL_kind_18 : decode cL_kind 18 = .ok (.ireturn, 1) := by decide +kernel
theorem dL_kind_19 : decode cL_kind 19 = .ok (.astore 5, 2) := by decide +kernel
theorem dL_kind_21 : decode cL_kind 21 = .ok (.iconst 2, 1) := by decide +kernel
theorem dL_kind_22 : decode cL_kind 22 = .ok (.ireturn, 1) := by decide +kernel
theorem dL_kind_23 : decode cL_kind 23 = .ok (.iconst 0, 1) := by decide +kernel
theorem dL_kind_24 : decode cL_kind 24 = .ok (.ireturn, 1) := by decide +kernel
theorem dL_sceneOf_0 : decode cL_sceneOf 0 = .ok (.aload_n 3, 1) := by decide +kernel
theorem dL_sceneOf_1 : decode cL_sceneOf 1 = .ok (.iconst 0, 1) := by decide +kernel
theorem dL_sceneOf_2 : decode cL_sceneOf 2 = .ok (.aload_n 0, 1) := by decide +kernel
theorem dL_sceneOf_3 : decode cL_sceneOf 3 = .ok (.iload_n 1, 1) := by decide +kernel
theorem dL_sceneOf_4 : decode cL_sceneOf 4 = .ok (.iload_n 2, 1) := by decide +kernel
theorem dL_sceneOf_5 : decode cL_sceneOf 5 = .ok (.invokevirtual 58, 3) := by decide +kernel
theorem dL_sceneOf_8 : decode cL_sceneOf 8 = .ok (.i2l, 1) := by decide +kernel
theorem dL_sceneOf_9 : decode cL_sceneOf 9 = .ok (.lastore, 1) := by decide +kernel
theorem dL_sceneOf_10 : decode cL_sceneOf 10 = .ok (.goto 11, 3) := by decide +kernel
theorem dL_sceneOf_13 : decode cL_sceneOf 13 = .ok (.astore 4, 2) := by decide +kernel
theorem dL_sceneOf_15 : decode cL_sceneOf 15 = .ok (.iconst 1, 1) := by decide +kernel
theorem dL_sceneOf_16 : decode cL_sceneOf 16 = .ok (.ireturn, 1) := by decide +kernel
theorem dL_sceneOf_17 : decode cL_sceneOf 17 = .ok (.astore 4, 2) := by decide +kernel
theorem dL_sceneOf_19 : decode cL_sceneOf 19 = .ok (.iconst 2, 1) := by decide +kernel
theorem dL_sceneOf_20 : decode cL_sceneOf 20 = .ok (.ireturn, 1) := by decide +kernel
theorem dL_sceneOf_21 : decode cL_sceneOf 21 = .ok (.iconst 0, 1) := by decide +kernel
theorem dL_sceneOf_22 : decode cL_sceneOf 22 = .ok (.ireturn, 1) := by decide +kernel
theorem dL_count_0 : decode cL_count 0 = .ok (.aload_n 2, 1) := by decide +kernel
theorem dL_count_1 : decode cL_count 1 = .ok (.iconst 0, 1) := by decide +kernel
theorem dL_count_2 : decode cL_count 2 = .ok (.aload_n 0, 1) := by decide +kernel
theorem dL_count_3 : decode cL_count 3 = .ok (.iload_n 1, 1) := by decide +kernel
theorem dL_count_4 : decode cL_count 4 = .ok (.invokevirtual 61, 3) := by decide +kernel
theorem dL_count_7 : decode cL_count 7 = .ok (.i2l, 1) := by decide +kernel
theorem dL_count_8 : decode cL_count 8 = .ok (.lastore, 1) := by decide +kernel
theorem dL_count_9 : decode cL_count 9 = .ok (.goto 6, 3) := by decide +kernel
theorem dL_count_12 : decode cL_count 12 = .ok (.astore_n 3, 1) := by decide +kernel
theorem dL_count_13 : decode cL_count 13 = .ok (.iconst 1, 1) := by decide +kernel
theorem dL_count_14 : decode cL_count 14 = .ok (.ireturn, 1) := by decide +kernel
theorem dL_count_15 : decode cL_count 15 = .ok (.iconst 0, 1) := by decide +kernel
theorem dL_count_16 : decode cL_count 16 = .ok (.ireturn, 1) := by decide +kernel
theorem dL_refusal_0 : decode cL_refusal 0 = .ok (.aload_n 3, 1) := by decide +kernel
theorem dL_refusal_1 : decode cL_refusal 1 = .ok (.iconst 0, 1) := by decide +kernel
theorem dL_refusal_2 : decode cL_refusal 2 = .ok (.aload_n 0, 1) := by decide +kernel
theorem dL_refusal_3 : decode cL_refusal 3 = .ok (.iload_n 1, 1) := by decide +kernel
theorem dL_refusal_4 : decode cL_refusal 4 = .ok (.iload_n 2, 1) := by decide +kernel
theorem dL_refusal_5 : decode cL_refusal 5 = .ok (.invokevirtual 64, 3) := by decide +kernel
theorem dL_refusal_8 : decode cL_refusal 8 = .ok (.i2l, 1) := by decide +kernel
theorem dL_refusal_9 : decode cL_refusal 9 = .ok (.lastore, 1) := by decide +kernel
theorem dL_refusal_10 : decode cL_refusal 10 = .ok (.goto 7, 3) := by decide +kernel
theorem dL_refusal_13 : decode cL_refusal 13 = .ok (.astore 4, 2) := by decide +kernel
theorem dL_refusal_15 : decode cL_refusal 15 = .ok (.iconst 1, 1) := by decide +kernel
theorem dL_refusal_16 : decode cL_refusal 16 = .ok (.ireturn, 1) := by decide +kernel
theorem dL_refusal_17 : decode cL_refusal 17 = .ok (.iconst 0, 1) := by decide +kernel
theorem dL_refusal_18 : decode cL_refusal 18 = .ok (.ireturn, 1) := by decide +kernel
theorem dL_soonest_0 : decode cL_soonest 0 = .ok (.aload_n 3, 1) := by decide +kernel
theorem dL_soonest_1 : decode cL_soonest 1 = .ok (.iconst 0, 1) := by decide +kernel
theorem dL_soonest_2 : decode cL_soonest 2 = .ok (.aload_n 0, 1) := by decide +kernel
theorem dL_soonest_3 : decode cL_soonest 3 = .ok (.iload_n 1, 1) := by decide +kernel
theorem dL_soonest_4 : decode cL_soonest 4 = .ok (.iload_n 2, 1) := by decide +kernel
theorem dL_soonest_5 : decode cL_soonest 5 = .ok (.invokevirtual 67, 3) := by decide +kernel
theorem dL_soonest_8 : decode cL_soonest 8 = .ok (.i2l, 1) := by decide +kernel
theorem dL_soonest_9 : decode cL_soonest 9 = .ok (.lastore, 1) := by decide +kernel
theorem dL_soonest_10 : decode cL_soonest 10 = .ok (.goto 7, 3) := by decide +kernel
theorem dL_soonest_13 : decode cL_soonest 13 = .ok (.astore 4, 2) := by decide +kernel
theorem dL_soonest_15 : decode cL_soonest 15 = .ok (.iconst 1, 1) := by decide +kernel
theorem dL_soonest_16 : decode cL_soonest 16 = .ok (.ireturn, 1) := by decide +kernel
theorem dL_soonest_17 : decode cL_soonest 17 = .ok (.iconst 0, 1) := by decide +kernel
theorem dL_soonest_18 : decode cL_soonest 18 = .ok (.ireturn, 1) := by decide +kernel
theorem dL_lacking_0 : decode cL_lacking 0 = .ok (.aload_n 3, 1) := by decide +kernel
theorem dL_lacking_1 : decode cL_lacking 1 = .ok (.iconst 0, 1) := by decide +kernel
theorem dL_lacking_2 : decode cL_lacking 2 = .ok (.aload_n 0, 1) := by decide +kernel
theorem dL_lacking_3 : decode cL_lacking 3 = .ok (.iload_n 1, 1) := by decide +kernel
theorem dL_lacking_4 : decode cL_lacking 4 = .ok (.iload_n 2, 1) := by decide +kernel
theorem dL_lacking_5 : decode cL_lacking 5 = .ok (.invokevirtual 70, 3) := by decide +kernel
theorem dL_lacking_8 : decode cL_lacking 8 = .ok (.i2l, 1) := by decide +kernel
theorem dL_lacking_9 : decode cL_lacking 9 = .ok (.lastore, 1) := by decide +kernel
theorem dL_lacking_10 : decode cL_lacking 10 = .ok (.goto 7, 3) := by decide +kernel
theorem dL_lacking_13 : decode cL_lacking 13 = .ok (.astore 4, 2) := by decide +kernel
theorem dL_lacking_15 : decode cL_lacking 15 = .ok (.iconst 1, 1) := by decide +kernel
theorem dL_lacking_16 : decode cL_lacking 16 = .ok (.ireturn, 1) := by decide +kernel
theorem dL_lacking_17 : decode cL_lacking 17 = .ok (.iconst 0, 1) := by decide +kernel
theorem dL_lacking_18 : decode cL_lacking 18 = .ok (.ireturn, 1) := by decide +kernel
theorem dL_best_0 : decode cL_best 0 = .ok (.aload_n 2, 1) := by decide +kernel
theorem dL_best_1 : decode cL_best 1 = .ok (.iconst 0, 1) := by decide +kernel
theorem dL_best_2 : decode cL_best 2 = .ok (.aload_n 0, 1) := by decide +kernel
theorem dL_best_3 : decode cL_best 3 = .ok (.iload_n 1, 1) := by decide +kernel
theorem dL_best_4 : decode cL_best 4 = .ok (.invokevirtual 73, 3) := by decide +kernel
theorem dL_best_7 : decode cL_best 7 = .ok (.i2l, 1) := by decide +kernel
theorem dL_best_8 : decode cL_best 8 = .ok (.lastore, 1) := by decide +kernel
theorem dL_best_9 : decode cL_best 9 = .ok (.goto 6, 3) := by decide +kernel
theorem dL_best_12 : decode cL_best 12 = .ok (.astore_n 3, 1) := by decide +kernel
theorem dL_best_13 : decode cL_best 13 = .ok (.iconst 1, 1) := by decide +kernel
theorem dL_best_14 : decode cL_best 14 = .ok (.ireturn, 1) := by decide +kernel
theorem dL_best_15 : decode cL_best 15 = .ok (.iconst 0, 1) := by decide +kernel
theorem dL_best_16 : decode cL_best 16 = .ok (.ireturn, 1) := by decide +kernel
theorem dL_cost_0 : decode cL_cost 0 = .ok (.aload_n 3, 1) := by decide +kernel
theorem dL_cost_1 : decode cL_cost 1 = .ok (.iconst 0, 1) := by decide +kernel
theorem dL_cost_2 : decode cL_cost 2 = .ok (.aload_n 0, 1) := by decide +kernel
theorem dL_cost_3 : decode cL_cost 3 = .ok (.iload_n 1, 1) := by decide +kernel
theorem dL_cost_4 : decode cL_cost 4 = .ok (.iload_n 2, 1) := by decide +kernel
theorem dL_cost_5 : decode cL_cost 5 = .ok (.invokevirtual 76, 3) := by decide +kernel
theorem dL_cost_8 : decode cL_cost 8 = .ok (.i2l, 1) := by decide +kernel
theorem dL_cost_9 : decode cL_cost 9 = .ok (.lastore, 1) := by decide +kernel
theorem dL_cost_10 : decode cL_cost 10 = .ok (.goto 7, 3) := by decide +kernel
theorem dL_cost_13 : decode cL_cost 13 = .ok (.astore 4, 2) := by decide +kernel
theorem dL_cost_15 : decode cL_cost 15 = .ok (.iconst 1, 1) := by decide +kernel
theorem dL_cost_16 : decode cL_cost 16 = .ok (.ireturn, 1) := by decide +kernel
theorem dL_cost_17 : decode cL_cost 17 = .ok (.iconst 0, 1) := by decide +kernel
theorem dL_cost_18 : decode cL_cost 18 = .ok (.ireturn, 1) := by decide +kernel
theorem dL_ifHurt_0 : decode cL_ifHurt 0 = .ok (.aload_n 3, 1) := by decide +kernel
theorem dL_ifHurt_1 : decode cL_ifHurt 1 = .ok (.iconst 0, 1) := by decide +kernel
theorem dL_ifHurt_2 : decode cL_ifHurt 2 = .ok (.aload_n 0, 1) := by decide +kernel
theorem dL_ifHurt_3 : decode cL_ifHurt 3 = .ok (.iload_n 1, 1) := by decide +kernel
theorem dL_ifHurt_4 : decode cL_ifHurt 4 = .ok (.iload_n 2, 1) := by decide +kernel
theorem dL_ifHurt_5 : decode cL_ifHurt 5 = .ok (.invokevirtual 79, 3) := by decide +kernel
theorem dL_ifHurt_8 : decode cL_ifHurt 8 = .ok (.i2l, 1) := by decide +kernel
theorem dL_ifHurt_9 : decode cL_ifHurt 9 = .ok (.lastore, 1) := by decide +kernel
theorem dL_ifHurt_10 : decode cL_ifHurt 10 = .ok (.goto 11, 3) := by decide +kernel
theorem dL_ifHurt_13 : decode cL_ifHurt 13 = .ok (.astore 4, 2) := by decide +kernel
theorem dL_ifHurt_15 : decode cL_ifHurt 15 = .ok (.iconst 1, 1) := by decide +kernel
theorem dL_ifHurt_16 : decode cL_ifHurt 16 = .ok (.ireturn, 1) := by decide +kernel
theorem dL_ifHurt_17 : decode cL_ifHurt 17 = .ok (.astore 4, 2) := by decide +kernel
theorem dL_ifHurt_19 : decode cL_ifHurt 19 = .ok (.iconst 2, 1) := by decide +kernel
theorem dL_ifHurt_20 : decode cL_ifHurt 20 = .ok (.ireturn, 1) := by decide +kernel
theorem dL_ifHurt_21 : decode cL_ifHurt 21 = .ok (.iconst 0, 1) := by decide +kernel
theorem dL_ifHurt_22 : decode cL_ifHurt 22 = .ok (.ireturn, 1) := by decide +kernel
theorem dJxe99ae_isNaN_b9ae7_0 : decode cJxe99ae_isNaN_b9ae7 0 = .ok (.dload_n 0, 1) := by decide +kernel
theorem dJxe99ae_isNaN_b9ae7_1 : decode cJxe99ae_isNaN_b9ae7 1 = .ok (.dload_n 0, 1) := by decide +kernel
theorem dJxe99ae_isNaN_b9ae7_2 : decode cJxe99ae_isNaN_b9ae7 2 = .ok (.dcmp .l, 1) := by decide +kernel
theorem dJxe99ae_isNaN_b9ae7_3 : decode cJxe99ae_isNaN_b9ae7 3 = .ok (.ifCond .eq 7, 3) := by decide +kernel
theorem dJxe99ae_isNaN_b9ae7_6 : decode cJxe99ae_isNaN_b9ae7 6 = .ok (.iconst 1, 1) := by decide +kernel
theorem dJxe99ae_isNaN_b9ae7_7 : decode cJxe99ae_isNaN_b9ae7 7 = .ok (.goto 4, 3) := by decide +kernel
theorem dJxe99ae_isNaN_b9ae7_10 : decode cJxe99ae_isNaN_b9ae7 10 = .ok (.iconst 0, 1) := by decide +kernel
theorem dJxe99ae_isNaN_b9ae7_11 : decode cJxe99ae_isNaN_b9ae7 11 = .ok (.ireturn, 1) := by decide +kernel
theorem dJxe99ae_doubleToLongBits_ccdee_0 : decode cJxe99ae_doubleToLongBits_ccdee 0 = .ok (.dload_n 0, 1) := by decide +kernel
theorem dJxe99ae_doubleToLongBits_ccdee_1 : decode cJxe99ae_doubleToLongBits_ccdee 1 = .ok (.invokestatic 122, 3) := by decide +kernel
theorem dJxe99ae_doubleToLongBits_ccdee_4 : decode cJxe99ae_doubleToLongBits_ccdee 4 = .ok (.ifCond .ne 8, 3) := by decide +kernel
theorem dJxe99ae_doubleToLongBits_ccdee_7 : decode cJxe99ae_doubleToLongBits_ccdee 7 = .ok (.dload_n 0, 1) := by decide +kernel
theorem dJxe99ae_doubleToLongBits_ccdee_8 : decode cJxe99ae_doubleToLongBits_ccdee 8 = .ok (.invokestatic 134, 3) := by decide +kernel
theorem dJxe99ae_doubleToLongBits_ccdee_11 : decode cJxe99ae_doubleToLongBits_ccdee 11 = .ok (.lreturn, 1) := by decide +kernel
theorem dJxe99ae_doubleToLongBits_ccdee_12 : decode cJxe99ae_doubleToLongBits_ccdee 12 = .ok (.ldc2_w 137, 3) := by decide +kernel
theorem dJxe99ae_doubleToLongBits_ccdee_15 : decode cJxe99ae_doubleToLongBits_ccdee 15 = .ok (.lreturn, 1) := by decide +kernel
end
section
theorem dL_law_0 : decode cL_law 0 = .ok (.new 8, 3) := by decide +kernel
theorem dL_law_3 : decode cL_law 3 = .ok (.dup, 1) := by decide +kernel
theorem dL_law_4 : decode cL_law 4 = .ok (.invokespecial 82, 3) := by decide +kernel
theorem dL_law_7 : decode cL_law 7 = .ok (.astore_n 1, 1) := by decide +kernel
theorem dL_law_8 : decode cL_law 8 = .ok (.new 83, 3) := by decide +kernel
theorem dL_law_11 : decode cL_law 11 = .ok (.dup, 1) := by decide +kernel
theorem dL_law_12 : decode cL_law 12 = .ok (.invokespecial 85, 3) := by decide +kernel
theorem dL_law_15 : decode cL_law 15 = .ok (.astore_n 2, 1) := by decide +kernel
theorem dL_law_16 : decode cL_law 16 = .ok (.iconst 1, 1) := by decide +kernel
theorem dL_law_17 : decode cL_law 17 = .ok (.newarray .long, 2) := by decide +kernel
theorem dL_law_19 : decode cL_law 19 = .ok (.astore_n 3, 1) := by decide +kernel
theorem dL_law_20 : decode cL_law 20 = .ok (.iconst 0, 1) := by decide +kernel
theorem dL_law_21 : decode cL_law 21 = .ok (.istore 4, 2) := by decide +kernel
theorem dL_law_23 : decode cL_law 23 = .ok (.iload 4, 2) := by decide +kernel
theorem dL_law_25 : decode cL_law 25 = .ok (.aload_n 0, 1) := by decide +kernel
theorem dL_law_26 : decode cL_law 26 = .ok (.arraylength, 1) := by decide +kernel
theorem dL_law_27 : decode cL_law 27 = .ok (.iconst 4, 1) := by decide +kernel
theorem dL_law_28 : decode cL_law 28 = .ok (.isub, 1) := by decide +kernel
theorem dL_law_29 : decode cL_law 29 = .ok (.if_icmp .gt 1602, 3) := by decide +kernel
theorem dL_law_32 : decode cL_law 32 = .ok (.aload_n 0, 1) := by decide +kernel
theorem dL_law_33 : decode cL_law 33 = .ok (.iload 4, 2) := by decide +kernel
theorem dL_law_35 : decode cL_law 35 = .ok (.iaload, 1) := by decide +kernel
theorem dL_law_36 : decode cL_law 36 = .ok (.bipush 31, 2) := by decide +kernel
theorem dL_law_38 : decode cL_law 38 = .ok (.iand, 1) := by decide +kernel
theorem dL_law_39 : decode cL_law 39 = .ok (.tableswitch 1586 0 24 #[113, 181, 237, 317, 397, 465, 545, 613, 669, 682, 695, 739, 783, 851, 931, 1011, 1079, 1135, 1203, 1271, 1339, 1395, 1463, 1531, 1572], 113) := by decide +kernel
theorem dL_law_152 : decode cL_law 152 = .ok (.aload_n 1, 1) := by decide +kernel
theorem dL_law_153 : decode cL_law 153 = .ok (.aload_n 0, 1) := by decide +kernel
theorem dL_law_154 : decode cL_law 154 = .ok (.iload 4, 2) := by decide +kernel
theorem dL_law_156 : decode cL_law 156 = .ok (.iconst 1, 1) := by decide +kernel
theorem dL_law_157 : decode cL_law 157 = .ok (.iadd, 1) := by decide +kernel
theorem dL_law_158 : decode cL_law 158 = .ok (.iaload, 1) := by decide +kernel
theorem dL_law_159 : decode cL_law 159 = .ok (.aload_n 0, 1) := by decide +kernel
theorem dL_law_160 : decode cL_law 160 = .ok (.iload 4, 2) := by decide +kernel
theorem dL_law_162 : decode cL_law 162 = .ok (.iconst 2, 1) := by decide +kernel
theorem dL_law_163 : decode cL_law 163 = .ok (.iadd, 1) := by decide +kernel
theorem dL_law_164 : decode cL_law 164 = .ok (.iaload, 1) := by decide +kernel
theorem dL_law_165 : decode cL_law 165 = .ok (.aload_n 3, 1) := by decide +kernel
theorem dL_law_166 : decode cL_law 166 = .ok (.invokestatic 86, 3) := by decide +kernel
theorem dL_law_169 : decode cL_law 169 = .ok (.istore 5, 2) := by decide +kernel
theorem dL_law_171 : decode cL_law 171 = .ok (.aload_n 2, 1) := by decide +kernel
theorem dL_law_172 : decode cL_law 172 = .ok (.aload_n 0, 1) := by decide +kernel
theorem dL_law_173 : decode cL_law 173 = .ok (.iload 4, 2) := by decide +kernel
theorem dL_law_175 : decode cL_law 175 = .ok (.iconst 1, 1) := by decide +kernel
theorem dL_law_176 : decode cL_law 176 = .ok (.iadd, 1) := by decide +kernel
theorem dL_law_177 : decode cL_law 177 = .ok (.iaload, 1) := by decide +kernel
theorem dL_law_178 : decode cL_law 178 = .ok (.aload_n 0, 1) := by decide +kernel
theorem dL_law_179 : decode cL_law 179 = .ok (.iload 4, 2) := by decide +kernel
theorem dL_law_181 : decode cL_law 181 = .ok (.iconst 2, 1) := by decide +kernel
theorem dL_law_182 : decode cL_law 182 = .ok (.iadd, 1) := by decide +kernel
theorem dL_law_183 : decode cL_law 183 = .ok (.iaload, 1) := by decide +kernel
theorem dL_law_184 : decode cL_law 184 = .ok (.invokevirtual 91, 3) := by decide +kernel
theorem dL_law_187 : decode cL_law 187 = .ok (.istore 6, 2) := by decide +kernel
theorem dL_law_189 : decode cL_law 189 = .ok (.aload_n 2, 1) := by decide +kernel
theorem dL_law_190 : decode cL_law 190 = .ok (.invokevirtual 92, 3) := by decide +kernel
theorem dL_law_193 : decode cL_law 193 = .ok (.iload 5, 2) := by decide +kernel
theorem dL_law_195 : decode cL_law 195 = .ok (.if_icmp .eq 5, 3) := by decide +kernel
theorem dL_law_198 : decode cL_law 198 = .ok (.iconst 0, 1) := by decide +kernel
theorem dL_law_199 : decode cL_law 199 = .ok (.ireturn, 1) := by decide +kernel
theorem dL_law_200 : decode cL_law 200 = .ok (.iload 5, 2) := by decide +kernel
theorem dL_law_202 : decode cL_law 202 = .ok (.ifCond .ne 15, 3) := by decide +kernel
theorem dL_law_205 : decode cL_law 205 = .ok (.aload_n 3, 1) := by decide +kernel
theorem dL_law_206 : decode cL_law 206 = .ok (.iconst 0, 1) := by decide +kernel
theorem dL_law_207 : decode cL_law 207 = .ok (.laload, 1) := by decide +kernel
theorem dL_law_208 : decode cL_law 208 = .ok (.iload 6, 2) := by decide +kernel
theorem dL_law_210 : decode cL_law 210 = .ok (.i2l, 1) := by decide +kernel
theorem dL_law_211 : decode cL_law 211 = .ok (.lcmp, 1) := by decide +kernel
theorem dL_law_212 : decode cL_law 212 = .ok (.ifCond .eq 5, 3) := by decide +kernel
theorem dL_law_215 : decode cL_law 215 = .ok (.iconst 0, 1) := by decide +kernel
theorem dL_law_216 : decode cL_law 216 = .ok (.ireturn, 1) := by decide +kernel
theorem dL_law_217 : decode cL_law 217 = .ok (.goto 1408, 3) := by decide +kernel
theorem dL_law_220 : decode cL_law 220 = .ok (.aload_n 1, 1) := by decide +kernel
theorem dL_law_221 : decode cL_law 221 = .ok (.aload_n 0, 1) := by decide +kernel
theorem dL_law_222 : decode cL_law 222 = .ok (.iload 4, 2) := by decide +kernel
theorem dL_law_224 : decode cL_law 224 = .ok (.iconst 1, 1) := by decide +kernel
theorem dL_law_225 : decode cL_law 225 = .ok (.iadd, 1) := by decide +kernel
theorem dL_law_226 : decode cL_law 226 = .ok (.iaload, 1) := by decide +kernel
theorem dL_law_227 : decode cL_law 227 = .ok (.aload_n 3, 1) := by decide +kernel
theorem dL_law_228 : decode cL_law 228 = .ok (.invokestatic 95, 3) := by decide +kernel
theorem dL_law_231 : decode cL_law 231 = .ok (.istore 5, 2) := by decide +kernel
theorem dL_law_233 : decode cL_law 233 = .ok (.aload_n 2, 1) := by decide +kernel
theorem dL_law_234 : decode cL_law 234 = .ok (.aload_n 0, 1) := by decide +kernel
theorem dL_law_235 : decode cL_law 235 = .ok (.iload 4, 2) := by decide +kernel
theorem dL_law_237 : decode cL_law 237 = .ok (.iconst 1, 1) := by decide +kernel
theorem dL_law_238 : decode cL_law 238 = .ok (.iadd, 1) := by decide +kernel
theorem dL_law_239 : decode cL_law 239 = .ok (.iaload, 1) := by decide +kernel
theorem dL_law_240 : decode cL_law 240 = .ok (.invokevirtual 98, 3) := by decide +kernel
theorem dL_law_243 : decode cL_law 243 = .ok (.istore 6, 2) := by decide +kernel
theorem dL_law_245 : decode cL_law 245 = .ok (.aload_n 2, 1) := by decide +kernel
theorem dL_law_246 : decode cL_law 246 = .ok (.invokevirtual 92, 3) := by decide +kernel
theorem dL_law_249 : decode cL_law 249 = .ok (.iload 5, 2) := by decide +kernel
theorem dL_law_251 : decode cL_law 251 = .ok (.if_icmp .eq 5, 3) := by decide +kernel
theorem dL_law_254 : decode cL_law 254 = .ok (.iconst 0, 1) := by decide +kernel
theorem dL_law_255 : decode cL_law 255 = .ok (.ireturn, 1) := by decide +kernel
theorem dL_law_256 : decode cL_law 256 = .ok (.iload 5, 2) := by decide +kernel
theorem dL_law_258 : decode cL_law 258 = .ok (.ifCond .ne 15, 3) := by decide +kernel
theorem dL_law_261 : decode cL_law 261 = .ok (.aload_n 3, 1) := by decide +kernel
theorem dL_law_262 : decode cL_law 262 = .ok (.iconst 0, 1) := by decide +kernel
theorem dL_law_263 : decode cL_law 263 = .ok (.laload, 1) := by decide +kernel
theorem dL_law_264 : decode cL_law 264 = .ok (.iload 6, 2) := by decide +kernel
theorem dL_law_266 : decode cL_law 266 = .ok (.i2l, 1) := by decide +kernel
theorem dL_law_267 : decode cL_law 267 = .ok (.lcmp, 1) := by decide +kernel
theorem dL_law_268 : decode cL_law 268 = .ok (.ifCond .eq 5, 3) := by decide +kernel
theorem dL_law_271 : decode cL_law 271 = .ok (.iconst 0, 1) := by decide +kernel
theorem dL_law_272 : decode cL_law 272 = .ok (.ireturn, 1) := by decide +kernel
theorem dL_law_273 : decode cL_law 273 = .ok (.goto 1352, 3) := by decide +kernel
theorem dL_law_276 : decode cL_law 276 = .ok (.aload_n 1, 1) := by decide +kernel
theorem dL_law_277 : decode cL_law 277 = .ok (.aload_n 0, 1) := by decide +kernel
theorem dL_law_278 : decode cL_law 278 = .ok (.iload 4, 2) := by decide +kernel
theorem dL_law_280 : decode cL_law 280 = .ok (.iconst 1, 1) := by decide +kernel
theorem dL_law_281 : decode cL_law 281 = .ok (.iadd, 1) := by decide +kernel
theorem dL_law_282 : decode cL_law 282 = .ok (.iaload, 1) := by decide +kernel
theorem dL_law_283 : decode cL_law 283 = .ok (.aload_n 0, 1) := by decide +kernel
theorem dL_law_284 : decode cL_law 284 = .ok (.iload 4, 2) := by decide +kernel
theorem dL_law_286 : decode cL_law 286 = .ok (.iconst 2, 1) := by decide +kernel
theorem dL_law_287 : decode cL_law 287 = .ok (.iadd, 1) := by decide +kernel
theorem dL_law_288 : decode cL_law 288 = .ok (.iaload, 1) := by decide +kernel
theorem dL_law_289 : decode cL_law 289 = .ok (.aload_n 0, 1) := by decide +kernel
theorem dL_law_290 : decode cL_law 290 = .ok (.iload 4, 2) := by decide +kernel
theorem dL_law_292 : decode cL_law 292 = .ok (.iconst 3, 1) := by decide +kernel
theorem dL_law_293 : decode cL_law 293 = .ok (.iadd, 1) := by decide +kernel
theorem dL_law_294 : decode cL_law 294 = .ok (.iaload, 1) := by decide +kernel
theorem dL_law_295 : decode cL_law 295 = .ok (.aload_n 3, 1) := by decide +kernel
theorem dL_law_296 : decode cL_law 296 = .ok (.invokestatic 99, 3) := by decide +kernel
theorem dL_law_299 : decode cL_law 299 = .ok (.istore 5, 2) := by decide +kernel
theorem dL_law_301 : decode cL_law 301 = .ok (.aload_n 2, 1) := by decide +kernel
theorem dL_law_302 : decode cL_law 302 = .ok (.aload_n 0, 1) := by decide +kernel
theorem dL_law_303 : decode cL_law 303 = .ok (.iload 4, 2) := by decide +kernel
theorem dL_law_305 : decode cL_law 305 = .ok (.iconst 1, 1) := by decide +kernel
theorem dL_law_306 : decode cL_law 306 = .ok (.iadd, 1) := by decide +kernel
theorem dL_law_307 : decode cL_law 307 = .ok (.iaload, 1) := by decide +kernel
theorem dL_law_308 : decode cL_law 308 = .ok (.aload_n 0, 1) := by decide +kernel
theorem dL_law_309 : decode cL_law 309 = .ok (.iload 4, 2) := by decide +kernel
theorem dL_law_311 : decode cL_law 311 = .ok (.iconst 2, 1) := by decide +kernel
theorem dL_law_312 : decode cL_law 312 = .ok (.iadd, 1) := by decide +kernel
theorem dL_law_313 : decode cL_law 313 = .ok (.iaload, 1) := by decide +kernel
theorem dL_law_314 : decode cL_law 314 = .ok (.aload_n 0, 1) := by decide +kernel
theorem dL_law_315 : decode cL_law 315 = .ok (.iload 4, 2) := by decide +kernel
theorem dL_law_317 : decode cL_law 317 = .ok (.iconst 3, 1) := by decide +kernel
theorem dL_law_318 : decode cL_law 318 = .ok (.iadd, 1) := by decide +kernel
theorem dL_law_319 : decode cL_law 319 = .ok (.iaload, 1) := by decide +kernel
theorem dL_law_320 : decode cL_law 320 = .ok (.invokevirtual 102, 3) := by decide +kernel
theorem dL_law_323 : decode cL_law 323 = .ok (.istore 6, 2) := by decide +kernel
theorem dL_law_325 : decode cL_law 325 = .ok (.aload_n 2, 1) := by decide +kernel
theorem dL_law_326 : decode cL_law 326 = .ok (.invokevirtual 92, 3) := by decide +kernel
theorem dL_law_329 : decode cL_law 329 = .ok (.iload 5, 2) := by decide +kernel
theorem dL_law_331 : decode cL_law 331 = .ok (.if_icmp .eq 5, 3) := by decide +kernel
theorem dL_law_334 : decode cL_law 334 = .ok (.iconst 0, 1) := by decide +kernel
theorem dL_law_335 : decode cL_law 335 = .ok (.ireturn, 1) := by decide +kernel
theorem dL_law_336 : decode cL_law 336 = .ok (.iload 5, 2) := by decide +kernel
theorem dL_law_338 : decode cL_law 338 = .ok (.ifCond .ne 15, 3) := by decide +kernel
theorem dL_law_341 : decode cL_law 341 = .ok (.aload_n 3, 1) := by decide +kernel
theorem dL_law_342 : decode cL_law 342 = .ok (.iconst 0, 1) := by decide +kernel
theorem dL_law_343 : decode cL_law 343 = .ok (.laload, 1) := by decide +kernel
theorem dL_law_344 : decode cL_law 344 = .ok (.iload 6, 2) := by decide +kernel
theorem dL_law_346 : decode cL_law 346 = .ok (.i2l, 1) := by decide +kernel
theorem dL_law_347 : decode cL_law 347 = .ok (.lcmp, 1) := by decide +kernel
theorem dL_law_348 : decode cL_law 348 = .ok (.ifCond .eq 5, 3) := by decide +kernel
theorem dL_law_351 : decode cL_law 351 = .ok (.iconst 0, 1) := by decide +kernel
theorem dL_law_352 : decode cL_law 352 = .ok (.ireturn, 1) := by decide +kernel
theorem dL_law_353 : decode cL_law 353 = .ok (.goto 1272, 3) := by decide +kernel
theorem dL_law_356 : decode cL_law 356 = .ok (.aload_n 1, 1) := by decide +kernel
theorem dL_law_357 : decode cL_law 357 = .ok (.aload_n 0, 1) := by decide +kernel
theorem dL_law_358 : decode cL_law 358 = .ok (.iload 4, 2) := by decide +kernel
theorem dL_law_360 : decode cL_law 360 = .ok (.iconst 1, 1) := by decide +kernel
theorem dL_law_361 : decode cL_law 361 = .ok (.iadd, 1) := by decide +kernel
theorem dL_law_362 : decode cL_law 362 = .ok (.iaload, 1) := by decide +kernel
theorem dL_law_363 : decode cL_law 363 = .ok (.aload_n 0, 1) := by decide +kernel
theorem dL_law_364 : decode cL_law 364 = .ok (.iload 4, 2) := by decide +kernel
theorem dL_law_366 : decode cL_law 366 = .ok (.iconst 2, 1) := by decide +kernel
theorem dL_law_367 : decode cL_law 367 = .ok (.iadd, 1) := by decide +kernel
theorem dL_law_368 : decode cL_law 368 = .ok (.iaload, 1) := by decide +kernel
theorem dL_law_369 : decode cL_law 369 = .ok (.aload_n 0, 1) := by decide +kernel
theorem dL_law_370 : decode cL_law 370 = .ok (.iload 4, 2) := by decide +kernel
theorem dL_law_372 : decode cL_law 372 = .ok (.iconst 3, 1) := by decide +kernel
theorem dL_law_373 : decode cL_law 373 = .ok (.iadd, 1) := by decide +kernel
theorem dL_law_374 : decode cL_law 374 = .ok (.iaload, 1) := by decide +kernel
theorem dL_law_375 : decode cL_law 375 = .ok (.aload_n 3, 1) := by decide +kernel
theorem dL_law_376 : decode cL_law 376 = .ok (.invokestatic 103, 3) := by decide +kernel
theorem dL_law_379 : decode cL_law 379 = .ok (.istore 5, 2) := by decide +kernel
theorem dL_law_381 : decode cL_law 381 = .ok (.aload_n 2, 1) := by decide +kernel
theorem dL_law_382 : decode cL_law 382 = .ok (.aload_n 0, 1) := by decide +kernel
theorem dL_law_383 : decode cL_law 383 = .ok (.iload 4, 2) := by decide +kernel
theorem dL_law_385 : decode cL_law 385 = .ok (.iconst 1, 1) := by decide +kernel
theorem dL_law_386 : decode cL_law 386 = .ok (.iadd, 1) := by decide +kernel
theorem dL_law_387 : decode cL_law 387 = .ok (.iaload, 1) := by decide +kernel
theorem dL_law_388 : decode cL_law 388 = .ok (.aload_n 0, 1) := by decide +kernel
theorem dL_law_389 : decode cL_law 389 = .ok (.iload 4, 2) := by decide +kernel
theorem dL_law_391 : decode cL_law 391 = .ok (.iconst 2, 1) := by decide +kernel
theorem dL_law_392 : decode cL_law 392 = .ok (.iadd, 1) := by decide +kernel
theorem dL_law_393 : decode cL_law 393 = .ok (.iaload, 1) := by decide +kernel
theorem dL_law_394 : decode cL_law 394 = .ok (.aload_n 0, 1) := by decide +kernel
theorem dL_law_395 : decode cL_law 395 = .ok (.iload 4, 2) := by decide +kernel
theorem dL_law_397 : decode cL_law 397 = .ok (.iconst 3, 1) := by decide +kernel
theorem dL_law_398 : decode cL_law 398 = .ok (.iadd, 1) := by decide +kernel
theorem dL_law_399 : decode cL_law 399 = .ok (.iaload, 1) := by decide +kernel
theorem dL_law_400 : decode cL_law 400 = .ok (.invokevirtual 105, 3) := by decide +kernel
theorem dL_law_403 : decode cL_law 403 = .ok (.istore 6, 2) := by decide +kernel
theorem dL_law_405 : decode cL_law 405 = .ok (.aload_n 2, 1) := by decide +kernel
theorem dL_law_406 : decode cL_law 406 = .ok (.invokevirtual 92, 3) := by decide +kernel
theorem dL_law_409 : decode cL_law 409 = .ok (.iload 5, 2) := by decide +kernel
theorem dL_law_411 : decode cL_law 411 = .ok (.if_icmp .eq 5, 3) := by decide +kernel
theorem dL_law_414 : decode cL_law 414 = .ok (.iconst 0, 1) := by decide +kernel
theorem dL_law_415 : decode cL_law 415 = .ok (.ireturn, 1) := by decide +kernel
theorem dL_law_416 : decode cL_law 416 = .ok (.iload 5, 2) := by decide +kernel
theorem dL_law_418 : decode cL_law 418 = .ok (.ifCond .ne 15, 3) := by decide +kernel
theorem dL_law_421 : decode cL_law 421 = .ok (.aload_n 3, 1) := by decide +kernel
theorem dL_law_422 : decode cL_law 422 = .ok (.iconst 0, 1) := by decide +kernel
theorem dL_law_423 : decode cL_law 423 = .ok (.laload, 1) := by decide +kernel
theorem dL_law_424 : decode cL_law 424 = .ok (.iload 6, 2) := by decide +kernel
theorem dL_law_426 : decode cL_law 426 = .ok (.i2l, 1) := by decide +kernel
theorem dL_law_427 : decode cL_law 427 = .ok (.lcmp, 1) := by decide +kernel
theorem dL_law_428 : decode cL_law 428 = .ok (.ifCond .eq 5, 3) := by decide +kernel
theorem dL_law_431 : decode cL_law 431 = .ok (.iconst 0, 1) := by decide +kernel
theorem dL_law_432 : decode cL_law 432 = .ok (.ireturn, 1) := by decide +kernel
theorem dL_law_433 : decode cL_law 433 = .ok (.goto 1192, 3) := by decide +kernel
theorem dL_law_436 : decode cL_law 436 = .ok (.aload_n 1, 1) := by decide +kernel
theorem dL_law_437 : decode cL_law 437 = .ok (.aload_n 0, 1) := by decide +kernel
theorem dL_law_438 : decode cL_law 438 = .ok (.iload 4, 2) := by decide +kernel
theorem dL_law_440 : decode cL_law 440 = .ok (.iconst 1, 1) := by decide +kernel
theorem dL_law_441 : decode cL_law 441 = .ok (.iadd, 1) := by decide +kernel
theorem dL_law_442 : decode cL_law 442 = .ok (.iaload, 1) := by decide +kernel
theorem dL_law_443 : decode cL_law 443 = .ok (.aload_n 0, 1) := by decide +kernel
theorem dL_law_444 : decode cL_law 444 = .ok (.iload 4, 2) := by decide +kernel
theorem dL_law_446 : decode cL_law 446 = .ok (.iconst 2, 1) := by decide +kernel
theorem dL_law_447 : decode cL_law 447 = .ok (.iadd, 1) := by decide +kernel
theorem dL_law_448 : decode cL_law 448 = .ok (.iaload, 1) := by decide +kernel
theorem dL_law_449 : decode cL_law 449 = .ok (.aload_n 3, 1) := by decide +kernel
theorem dL_law_450 : decode cL_law 450 = .ok (.invokestatic 106, 3) := by decide +kernel
theorem dL_law_453 : decode cL_law 453 = .ok (.istore 5, 2) := by decide +kernel
theorem dL_law_455 : decode cL_law 455 = .ok (.aload_n 2, 1) := by decide +kernel
theorem dL_law_456 : decode cL_law 456 = .ok (.aload_n 0, 1) := by decide +kernel
theorem dL_law_457 : decode cL_law 457 = .ok (.iload 4, 2) := by decide +kernel
theorem dL_law_459 : decode cL_law 459 = .ok (.iconst 1, 1) := by decide +kernel
theorem dL_law_460 : decode cL_law 460 = .ok (.iadd, 1) := by decide +kernel
theorem dL_law_461 : decode cL_law 461 = .ok (.iaload, 1) := by decide +kernel
theorem dL_law_462 : decode cL_law 462 = .ok (.aload_n 0, 1) := by decide +kernel
theorem dL_law_463 : decode cL_law 463 = .ok (.iload 4, 2) := by decide +kernel
theorem dL_law_465 : decode cL_law 465 = .ok (.iconst 2, 1) := by decide +kernel
theorem dL_law_466 : decode cL_law 466 = .ok (.iadd, 1) := by decide +kernel
theorem dL_law_467 : decode cL_law 467 = .ok (.iaload, 1) := by decide +kernel
theorem dL_law_468 : decode cL_law 468 = .ok (.invokevirtual 108, 3) := by decide +kernel
theorem dL_law_471 : decode cL_law 471 = .ok (.istore 6, 2) := by decide +kernel
theorem dL_law_473 : decode cL_law 473 = .ok (.aload_n 2, 1) := by decide +kernel
theorem dL_law_474 : decode cL_law 474 = .ok (.invokevirtual 92, 3) := by decide +kernel
theorem dL_law_477 : decode cL_law 477 = .ok (.iload 5, 2) := by decide +kernel
theorem dL_law_479 : decode cL_law 479 = .ok (.if_icmp .eq 5, 3) := by decide +kernel
theorem dL_law_482 : decode cL_law 482 = .ok (.iconst 0, 1) := by decide +kernel
theorem dL_law_483 : decode cL_law 483 = .ok (.ireturn, 1) := by decide +kernel
theorem dL_law_484 : decode cL_law 484 = .ok (.iload 5, 2) := by decide +kernel
theorem dL_law_486 : decode cL_law 486 = .ok (.ifCond .ne 15, 3) := by decide +kernel
theorem dL_law_489 : decode cL_law 489 = .ok (.aload_n 3, 1) := by decide +kernel
theorem dL_law_490 : decode cL_law 490 = .ok (.iconst 0, 1) := by decide +kernel
theorem dL_law_491 : decode cL_law 491 = .ok (.laload, 1) := by decide +kernel
theorem dL_law_492 : decode cL_law 492 = .ok (.iload 6, 2) := by decide +kernel
theorem dL_law_494 : decode cL_law 494 = .ok (.i2l, 1) := by decide +kernel
theorem dL_law_495 : decode cL_law 495 = .ok (.lcmp, 1) := by decide +kernel
theorem dL_law_496 : decode cL_law 496 = .ok (.ifCond .eq 5, 3) := by decide +kernel
theorem dL_law_499 : decode cL_law 499 = .ok (.iconst 0, 1) := by decide +kernel
theorem dL_law_500 : decode cL_law 500 = .ok (.ireturn, 1) := by decide +kernel
theorem dL_law_501 : decode cL_law 501 = .ok (.goto 1124, 3) := by decide +kernel
theorem dL_law_504 : decode cL_law 504 = .ok (.aload_n 1, 1) := by decide +kernel
theorem dL_law_505 : decode cL_law 505 = .ok (.aload_n 0, 1) := by decide +kernel
theorem dL_law_506 : decode cL_law 506 = .ok (.iload 4, 2) := by decide +kernel
theorem dL_law_508 : decode cL_law 508 = .ok (.iconst 1, 1) := by decide +kernel
theorem dL_law_509 : decode cL_law 509 = .ok (.iadd, 1) := by decide +kernel
theorem dL_law_510 : decode cL_law 510 = .ok (.iaload, 1) := by decide +kernel
theorem dL_law_511 : decode cL_law 511 = .ok (.aload_n 0, 1) := by decide +kernel
theorem dL_law_512 : decode cL_law 512 = .ok (.iload 4, 2) := by decide +kernel
theorem dL_law_514 : decode cL_law 514 = .ok (.iconst 2, 1) := by decide +kernel
theorem dL_law_515 : decode cL_law 515 = .ok (.iadd, 1) := by decide +kernel
theorem dL_law_516 : decode cL_law 516 = .ok (.iaload, 1) := by decide +kernel
theorem dL_law_517 : decode cL_law 517 = .ok (.aload_n 0, 1) := by decide +kernel
theorem dL_law_518 : decode cL_law 518 = .ok (.iload 4, 2) := by decide +kernel
theorem dL_law_520 : decode cL_law 520 = .ok (.iconst 3, 1) := by decide +kernel
theorem dL_law_521 : decode cL_law 521 = .ok (.iadd, 1) := by decide +kernel
theorem dL_law_522 : decode cL_law 522 = .ok (.iaload, 1) := by decide +kernel
theorem dL_law_523 : decode cL_law 523 = .ok (.aload_n 3, 1) := by decide +kernel
theorem dL_law_524 : decode cL_law 524 = .ok (.invokestatic 109, 3) := by decide +kernel
theorem dL_law_527 : decode cL_law 527 = .ok (.istore 5, 2) := by decide +kernel
theorem dL_law_529 : decode cL_law 529 = .ok (.aload_n 2, 1) := by decide +kernel
theorem dL_law_530 : decode cL_law 530 = .ok (.aload_n 0, 1) := by decide +kernel
theorem dL_law_531 : decode cL_law 531 = .ok (.iload 4, 2) := by decide +kernel
theorem dL_law_533 : decode cL_law 533 = .ok (.iconst 1, 1) := by decide +kernel
theorem dL_law_534 : decode cL_law 534 = .ok (.iadd, 1) := by decide +kernel
theorem dL_law_535 : decode cL_law 535 = .ok (.iaload, 1) := by decide +kernel
theorem dL_law_536 : decode cL_law 536 = .ok (.aload_n 0, 1) := by decide +kernel
theorem dL_law_537 : decode cL_law 537 = .ok (.iload 4, 2) := by decide +kernel
theorem dL_law_539 : decode cL_law 539 = .ok (.iconst 2, 1) := by decide +kernel
theorem dL_law_540 : decode cL_law 540 = .ok (.iadd, 1) := by decide +kernel
theorem dL_law_541 : decode cL_law 541 = .ok (.iaload, 1) := by decide +kernel
theorem dL_law_542 : decode cL_law 542 = .ok (.aload_n 0, 1) := by decide +kernel
theorem dL_law_543 : decode cL_law 543 = .ok (.iload 4, 2) := by decide +kernel
theorem dL_law_545 : decode cL_law 545 = .ok (.iconst 3, 1) := by decide +kernel
theorem dL_law_546 : decode cL_law 546 = .ok (.iadd, 1) := by decide +kernel
theorem dL_law_547 : decode cL_law 547 = .ok (.iaload, 1) := by decide +kernel
theorem dL_law_548 : decode cL_law 548 = .ok (.invokevirtual 111, 3) := by decide +kernel
theorem dL_law_551 : decode cL_law 551 = .ok (.istore 6, 2) := by decide +kernel
theorem dL_law_553 : decode cL_law 553 = .ok (.aload_n 2, 1) := by decide +kernel
theorem dL_law_554 : decode cL_law 554 = .ok (.invokevirtual 92, 3) := by decide +kernel
theorem dL_law_557 : decode cL_law 557 = .ok (.iload 5, 2) := by decide +kernel
theorem dL_law_559 : decode cL_law 559 = .ok (.if_icmp .eq 5, 3) := by decide +kernel
theorem dL_law_562 : decode cL_law 562 = .ok (.iconst 0, 1) := by decide +kernel
theorem dL_law_563 : decode cL_law 563 = .ok (.ireturn, 1) := by decide +kernel
theorem dL_law_564 : decode cL_law 564 = .ok (.iload 5, 2) := by decide +kernel
theorem dL_law_566 : decode cL_law 566 = .ok (.ifCond .ne 15, 3) := by decide +kernel
theorem dL_law_569 : decode cL_law 569 = .ok (.aload_n 3, 1) := by decide +kernel
theorem dL_law_570 : decode cL_law 570 = .ok (.iconst 0, 1) := by decide +kernel
theorem dL_law_571 : decode cL_law 571 = .ok (.laload, 1) := by decide +kernel
theorem dL_law_572 : decode cL_law 572 = .ok (.iload 6, 2) := by decide +kernel
theorem dL_law_574 : decode cL_law 574 = .ok (.i2l, 1) := by decide +kernel
theorem dL_law_575 : decode cL_law 575 = .ok (.lcmp, 1) := by decide +kernel
theorem dL_law_576 : decode cL_law 576 = .ok (.ifCond .eq 5, 3) := by decide +kernel
theorem dL_law_579 : decode cL_law 579 = .ok (.iconst 0, 1) := by decide +kernel
theorem dL_law_580 : decode cL_law 580 = .ok (.ireturn, 1) := by decide +kernel
theorem dL_law_581 : decode cL_law 581 = .ok (.goto 1044, 3) := by decide +kernel
theorem dL_law_584 : decode cL_law 584 = .ok (.aload_n 1, 1) := by decide +kernel
theorem dL_law_585 : decode cL_law 585 = .ok (.aload_n 0, 1) := by decide +kernel
theorem dL_law_586 : decode cL_law 586 = .ok (.iload 4, 2) := by decide +kernel
theorem dL_law_588 : decode cL_law 588 = .ok (.iconst 1, 1) := by decide +kernel
theorem dL_law_589 : decode cL_law 589 = .ok (.iadd, 1) := by decide +kernel
theorem dL_law_590 : decode cL_law 590 = .ok (.iaload, 1) := by decide +kernel
theorem dL_law_591 : decode cL_law 591 = .ok (.aload_n 0, 1) := by decide +kernel
theorem dL_law_592 : decode cL_law 592 = .ok (.iload 4, 2) := by decide +kernel
theorem dL_law_594 : decode cL_law 594 = .ok (.iconst 2, 1) := by decide +kernel
theorem dL_law_595 : decode cL_law 595 = .ok (.iadd, 1) := by decide +kernel
theorem dL_law_596 : decode cL_law 596 = .ok (.iaload, 1) := by decide +kernel
theorem dL_law_597 : decode cL_law 597 = .ok (.aload_n 3, 1) := by decide +kernel
theorem dL_law_598 : decode cL_law 598 = .ok (.invokestatic 112, 3) := by decide +kernel
theorem dL_law_601 : decode cL_law 601 = .ok (.istore 5, 2) := by decide +kernel
theorem dL_law_603 : decode cL_law 603 = .ok (.aload_n 2, 1) := by decide +kernel
theorem dL_law_604 : decode cL_law 604 = .ok (.aload_n 0, 1) := by decide +kernel
theorem dL_law_605 : decode cL_law 605 = .ok (.iload 4, 2) := by decide +kernel
theorem dL_law_607 : decode cL_law 607 = .ok (.iconst 1, 1) := by decide +kernel
theorem dL_law_608 : decode cL_law 608 = .ok (.iadd, 1) := by decide +kernel
theorem dL_law_609 : decode cL_law 609 = .ok (.iaload, 1) := by decide +kernel
theorem dL_law_610 : decode cL_law 610 = .ok (.aload_n 0, 1) := by decide +kernel
theorem dL_law_611 : decode cL_law 611 = .ok (.iload 4, 2) := by decide +kernel
theorem dL_law_613 : decode cL_law 613 = .ok (.iconst 2, 1) := by decide +kernel
theorem dL_law_614 : decode cL_law 614 = .ok (.iadd, 1) := by decide +kernel
theorem dL_law_615 : decode cL_law 615 = .ok (.iaload, 1) := by decide +kernel
theorem dL_law_616 : decode cL_law 616 = .ok (.invokevirtual 114, 3) := by decide +kernel
theorem dL_law_619 : decode cL_law 619 = .ok (.istore 6, 2) := by decide +kernel
theorem dL_law_621 : decode cL_law 621 = .ok (.aload_n 2, 1) := by decide +kernel
theorem dL_law_622 : decode cL_law 622 = .ok (.invokevirtual 92, 3) := by decide +kernel
theorem dL_law_625 : decode cL_law 625 = .ok (.iload 5, 2) := by decide +kernel
theorem dL_law_627 : decode cL_law 627 = .ok (.if_icmp .eq 5, 3) := by decide +kernel
theorem dL_law_630 : decode cL_law 630 = .ok (.iconst 0, 1) := by decide +kernel
theorem dL_law_631 : decode cL_law 631 = .ok (.ireturn, 1) := by decide +kernel
theorem dL_law_632 : decode cL_law 632 = .ok (.iload 5, 2) := by decide +kernel
theorem dL_law_634 : decode cL_law 634 = .ok (.ifCond .ne 15, 3) := by decide +kernel
theorem dL_law_637 : decode cL_law 637 = .ok (.aload_n 3, 1) := by decide +kernel
theorem dL_law_638 : decode cL_law 638 = .ok (.iconst 0, 1) := by decide +kernel
theorem dL_law_639 : decode cL_law 639 = .ok (.laload, 1) := by decide +kernel
theorem dL_law_640 : decode cL_law 640 = .ok (.iload 6, 2) := by decide +kernel
theorem dL_law_642 : decode cL_law 642 = .ok (.i2l, 1) := by decide +kernel
theorem dL_law_643 : decode cL_law 643 = .ok (.lcmp, 1) := by decide +kernel
theorem dL_law_644 : decode cL_law 644 = .ok (.ifCond .eq 5, 3) := by decide +kernel
theorem dL_law_647 : decode cL_law 647 = .ok (.iconst 0, 1) := by decide +kernel
theorem dL_law_648 : decode cL_law 648 = .ok (.ireturn, 1) := by decide +kernel
theorem dL_law_649 : decode cL_law 649 = .ok (.goto 976, 3) := by decide +kernel
theorem dL_law_652 : decode cL_law 652 = .ok (.aload_n 1, 1) := by decide +kernel
theorem dL_law_653 : decode cL_law 653 = .ok (.aload_n 0, 1) := by decide +kernel
theorem dL_law_654 : decode cL_law 654 = .ok (.iload 4, 2) := by decide +kernel
theorem dL_law_656 : decode cL_law 656 = .ok (.iconst 1, 1) := by decide +kernel
theorem dL_law_657 : decode cL_law 657 = .ok (.iadd, 1) := by decide +kernel
theorem dL_law_658 : decode cL_law 658 = .ok (.iaload, 1) := by decide +kernel
theorem dL_law_659 : decode cL_law 659 = .ok (.aload_n 3, 1) := by decide +kernel
theorem dL_law_660 : decode cL_law 660 = .ok (.invokestatic 115, 3) := by decide +kernel
theorem dL_law_663 : decode cL_law 663 = .ok (.istore 5, 2) := by decide +kernel
theorem dL_law_665 : decode cL_law 665 = .ok (.aload_n 2, 1) := by decide +kernel
theorem dL_law_666 : decode cL_law 666 = .ok (.aload_n 0, 1) := by decide +kernel
theorem dL_law_667 : decode cL_law 667 = .ok (.iload 4, 2) := by decide +kernel
theorem dL_law_669 : decode cL_law 669 = .ok (.iconst 1, 1) := by decide +kernel
theorem dL_law_670 : decode cL_law 670 = .ok (.iadd, 1) := by decide +kernel
theorem dL_law_671 : decode cL_law 671 = .ok (.iaload, 1) := by decide +kernel
theorem dL_law_672 : decode cL_law 672 = .ok (.invokevirtual 117, 3) := by decide +kernel
theorem dL_law_675 : decode cL_law 675 = .ok (.istore 6, 2) := by decide +kernel
theorem dL_law_677 : decode cL_law 677 = .ok (.aload_n 2, 1) := by decide +kernel
theorem dL_law_678 : decode cL_law 678 = .ok (.invokevirtual 92, 3) := by decide +kernel
theorem dL_law_681 : decode cL_law 681 = .ok (.iload 5, 2) := by decide +kernel
theorem dL_law_683 : decode cL_law 683 = .ok (.if_icmp .eq 5, 3) := by decide +kernel
theorem dL_law_686 : decode cL_law 686 = .ok (.iconst 0, 1) := by decide +kernel
theorem dL_law_687 : decode cL_law 687 = .ok (.ireturn, 1) := by decide +kernel
theorem dL_law_688 : decode cL_law 688 = .ok (.iload 5, 2) := by decide +kernel
theorem dL_law_690 : decode cL_law 690 = .ok (.ifCond .ne 15, 3) := by decide +kernel
theorem dL_law_693 : decode cL_law 693 = .ok (.aload_n 3, 1) := by decide +kernel
theorem dL_law_694 : decode cL_law 694 = .ok (.iconst 0, 1) := by decide +kernel
theorem dL_law_695 : decode cL_law 695 = .ok (.laload, 1) := by decide +kernel
theorem dL_law_696 : decode cL_law 696 = .ok (.iload 6, 2) := by decide +kernel
theorem dL_law_698 : decode cL_law 698 = .ok (.i2l, 1) := by decide +kernel
theorem dL_law_699 : decode cL_law 699 = .ok (.lcmp, 1) := by decide +kernel
theorem dL_law_700 : decode cL_law 700 = .ok (.ifCond .eq 5, 3) := by decide +kernel
theorem dL_law_703 : decode cL_law 703 = .ok (.iconst 0, 1) := by decide +kernel
theorem dL_law_704 : decode cL_law 704 = .ok (.ireturn, 1) := by decide +kernel
theorem dL_law_705 : decode cL_law 705 = .ok (.goto 920, 3) := by decide +kernel
theorem dL_law_708 : decode cL_law 708 = .ok (.aload_n 1, 1) := by decide +kernel
theorem dL_law_709 : decode cL_law 709 = .ok (.invokevirtual 118, 3) := by decide +kernel
theorem dL_law_712 : decode cL_law 712 = .ok (.aload_n 2, 1) := by decide +kernel
theorem dL_law_713 : decode cL_law 713 = .ok (.invokevirtual 121, 3) := by decide +kernel
theorem dL_law_716 : decode cL_law 716 = .ok (.if_icmp .eq 909, 3) := by decide +kernel
theorem dL_law_719 : decode cL_law 719 = .ok (.iconst 0, 1) := by decide +kernel
theorem dL_law_720 : decode cL_law 720 = .ok (.ireturn, 1) := by decide +kernel
theorem dL_law_721 : decode cL_law 721 = .ok (.aload_n 1, 1) := by decide +kernel
theorem dL_law_722 : decode cL_law 722 = .ok (.invokevirtual 122, 3) := by decide +kernel
theorem dL_law_725 : decode cL_law 725 = .ok (.aload_n 2, 1) := by decide +kernel
theorem dL_law_726 : decode cL_law 726 = .ok (.invokevirtual 125, 3) := by decide +kernel
theorem dL_law_729 : decode cL_law 729 = .ok (.if_icmp .eq 896, 3) := by decide +kernel
theorem dL_law_732 : decode cL_law 732 = .ok (.iconst 0, 1) := by decide +kernel
theorem dL_law_733 : decode cL_law 733 = .ok (.ireturn, 1) := by decide +kernel
theorem dL_law_734 : decode cL_law 734 = .ok (.aload_n 1, 1) := by decide +kernel
theorem dL_law_735 : decode cL_law 735 = .ok (.aload_n 3, 1) := by decide +kernel
theorem dL_law_736 : decode cL_law 736 = .ok (.invokestatic 126, 3) := by decide +kernel
theorem dL_law_739 : decode cL_law 739 = .ok (.istore 5, 2) := by decide +kernel
theorem dL_law_741 : decode cL_law 741 = .ok (.aload_n 2, 1) := by decide +kernel
theorem dL_law_742 : decode cL_law 742 = .ok (.invokevirtual 129, 3) := by decide +kernel
theorem dL_law_745 : decode cL_law 745 = .ok (.istore 6, 2) := by decide +kernel
theorem dL_law_747 : decode cL_law 747 = .ok (.aload_n 2, 1) := by decide +kernel
theorem dL_law_748 : decode cL_law 748 = .ok (.invokevirtual 92, 3) := by decide +kernel
theorem dL_law_751 : decode cL_law 751 = .ok (.iload 5, 2) := by decide +kernel
theorem dL_law_753 : decode cL_law 753 = .ok (.if_icmp .eq 5, 3) := by decide +kernel
theorem dL_law_756 : decode cL_law 756 = .ok (.iconst 0, 1) := by decide +kernel
theorem dL_law_757 : decode cL_law 757 = .ok (.ireturn, 1) := by decide +kernel
theorem dL_law_758 : decode cL_law 758 = .ok (.iload 5, 2) := by decide +kernel
theorem dL_law_760 : decode cL_law 760 = .ok (.ifCond .ne 15, 3) := by decide +kernel
theorem dL_law_763 : decode cL_law 763 = .ok (.aload_n 3, 1) := by decide +kernel
theorem dL_law_764 : decode cL_law 764 = .ok (.iconst 0, 1) := by decide +kernel
theorem dL_law_765 : decode cL_law 765 = .ok (.laload, 1) := by decide +kernel
theorem dL_law_766 : decode cL_law 766 = .ok (.iload 6, 2) := by decide +kernel
theorem dL_law_768 : decode cL_law 768 = .ok (.i2l, 1) := by decide +kernel
theorem dL_law_769 : decode cL_law 769 = .ok (.lcmp, 1) := by decide +kernel
theorem dL_law_770 : decode cL_law 770 = .ok (.ifCond .eq 5, 3) := by decide +kernel
theorem dL_law_773 : decode cL_law 773 = .ok (.iconst 0, 1) := by decide +kernel
theorem dL_law_774 : decode cL_law 774 = .ok (.ireturn, 1) := by decide +kernel
theorem dL_law_775 : decode cL_law 775 = .ok (.goto 850, 3) := by decide +kernel
theorem dL_law_778 : decode cL_law 778 = .ok (.aload_n 1, 1) := by decide +kernel
theorem dL_law_779 : decode cL_law 779 = .ok (.aload_n 3, 1) := by decide +kernel
theorem dL_law_780 : decode cL_law 780 = .ok (.invokestatic 130, 3) := by decide +kernel
theorem dL_law_783 : decode cL_law 783 = .ok (.istore 5, 2) := by decide +kernel
theorem dL_law_785 : decode cL_law 785 = .ok (.aload_n 2, 1) := by decide +kernel
theorem dL_law_786 : decode cL_law 786 = .ok (.invokevirtual 132, 3) := by decide +kernel
theorem dL_law_789 : decode cL_law 789 = .ok (.istore 6, 2) := by decide +kernel
theorem dL_law_791 : decode cL_law 791 = .ok (.aload_n 2, 1) := by decide +kernel
theorem dL_law_792 : decode cL_law 792 = .ok (.invokevirtual 92, 3) := by decide +kernel
theorem dL_law_795 : decode cL_law 795 = .ok (.iload 5, 2) := by decide +kernel
theorem dL_law_797 : decode cL_law 797 = .ok (.if_icmp .eq 5, 3) := by decide +kernel
theorem dL_law_800 : decode cL_law 800 = .ok (.iconst 0, 1) := by decide +kernel
theorem dL_law_801 : decode cL_law 801 = .ok (.ireturn, 1) := by decide +kernel
theorem dL_law_802 : decode cL_law 802 = .ok (.iload 5, 2) := by decide +kernel
theorem dL_law_804 : decode cL_law 804 = .ok (.ifCond .ne 15, 3) := by decide +kernel
theorem dL_law_807 : decode cL_law 807 = .ok (.aload_n 3, 1) := by decide +kernel
theorem dL_law_808 : decode cL_law 808 = .ok (.iconst 0, 1) := by decide +kernel
theorem dL_law_809 : decode cL_law 809 = .ok (.laload, 1) := by decide +kernel
theorem dL_law_810 : decode cL_law 810 = .ok (.iload 6, 2) := by decide +kernel
theorem dL_law_812 : decode cL_law 812 = .ok (.i2l, 1) := by decide +kernel
theorem dL_law_813 : decode cL_law 813 = .ok (.lcmp, 1) := by decide +kernel
theorem dL_law_814 : decode cL_law 814 = .ok (.ifCond .eq 5, 3) := by decide +kernel
theorem dL_law_817 : decode cL_law 817 = .ok (.iconst 0, 1) := by decide +kernel
theorem dL_law_818 : decode cL_law 818 = .ok (.ireturn, 1) := by decide +kernel
theorem dL_law_819 : decode cL_law 819 = .ok (.goto 806, 3) := by decide +kernel
theorem dL_law_822 : decode cL_law 822 = .ok (.aload_n 1, 1) := by decide +kernel
theorem dL_law_823 : decode cL_law 823 = .ok (.aload_n 0, 1) := by decide +kernel
theorem dL_law_824 : decode cL_law 824 = .ok (.iload 4, 2) := by decide +kernel
theorem dL_law_826 : decode cL_law 826 = .ok (.iconst 1, 1) := by decide +kernel
theorem dL_law_827 : decode cL_law 827 = .ok (.iadd, 1) := by decide +kernel
theorem dL_law_828 : decode cL_law 828 = .ok (.iaload, 1) := by decide +kernel
theorem dL_law_829 : decode cL_law 829 = .ok (.aload_n 0, 1) := by decide +kernel
theorem dL_law_830 : decode cL_law 830 = .ok (.iload 4, 2) := by decide +kernel
theorem dL_law_832 : decode cL_law 832 = .ok (.iconst 2, 1) := by decide +kernel
theorem dL_law_833 : decode cL_law 833 = .ok (.iadd, 1) := by decide +kernel
theorem dL_law_834 : decode cL_law 834 = .ok (.iaload, 1) := by decide +kernel
theorem dL_law_835 : decode cL_law 835 = .ok (.aload_n 3, 1) := by decide +kernel
theorem dL_law_836 : decode cL_law 836 = .ok (.invokestatic 133, 3) := by decide +kernel
theorem dL_law_839 : decode cL_law 839 = .ok (.istore 5, 2) := by decide +kernel
theorem dL_law_841 : decode cL_law 841 = .ok (.aload_n 2, 1) := by decide +kernel
theorem dL_law_842 : decode cL_law 842 = .ok (.aload_n 0, 1) := by decide +kernel
theorem dL_law_843 : decode cL_law 843 = .ok (.iload 4, 2) := by decide +kernel
theorem dL_law_845 : decode cL_law 845 = .ok (.iconst 1, 1) := by decide +kernel
theorem dL_law_846 : decode cL_law 846 = .ok (.iadd, 1) := by decide +kernel
theorem dL_law_847 : decode cL_law 847 = .ok (.iaload, 1) := by decide +kernel
theorem dL_law_848 : decode cL_law 848 = .ok (.aload_n 0, 1) := by decide +kernel
theorem dL_law_849 : decode cL_law 849 = .ok (.iload 4, 2) := by decide +kernel
theorem dL_law_851 : decode cL_law 851 = .ok (.iconst 2, 1) := by decide +kernel
theorem dL_law_852 : decode cL_law 852 = .ok (.iadd, 1) := by decide +kernel
theorem dL_law_853 : decode cL_law 853 = .ok (.iaload, 1) := by decide +kernel
theorem dL_law_854 : decode cL_law 854 = .ok (.invokevirtual 135, 3) := by decide +kernel
theorem dL_law_857 : decode cL_law 857 = .ok (.istore 6, 2) := by decide +kernel
theorem dL_law_859 : decode cL_law 859 = .ok (.aload_n 2, 1) := by decide +kernel
theorem dL_law_860 : decode cL_law 860 = .ok (.invokevirtual 92, 3) := by decide +kernel
theorem dL_law_863 : decode cL_law 863 = .ok (.iload 5, 2) := by decide +kernel
theorem dL_law_865 : decode cL_law 865 = .ok (.if_icmp .eq 5, 3) := by decide +kernel
theorem dL_law_868 : decode cL_law 868 = .ok (.iconst 0, 1) := by decide +kernel
theorem dL_law_869 : decode cL_law 869 = .ok (.ireturn, 1) := by decide +kernel
theorem dL_law_870 : decode cL_law 870 = .ok (.iload 5, 2) := by decide +kernel
theorem dL_law_872 : decode cL_law 872 = .ok (.ifCond .ne 15, 3) := by decide +kernel
theorem dL_law_875 : decode cL_law 875 = .ok (.aload_n 3, 1) := by decide +kernel
theorem dL_law_876 : decode cL_law 876 = .ok (.iconst 0, 1) := by decide +kernel
theorem dL_law_877 : decode cL_law 877 = .ok (.laload, 1) := by decide +kernel
theorem dL_law_878 : decode cL_law 878 = .ok (.iload 6, 2) := by decide +kernel
theorem dL_law_880 : decode cL_law 880 = .ok (.i2l, 1) := by decide +kernel
theorem dL_law_881 : decode cL_law 881 = .ok (.lcmp, 1) := by decide +kernel
theorem dL_law_882 : decode cL_law 882 = .ok (.ifCond .eq 5, 3) := by decide +kernel
theorem dL_law_885 : decode cL_law 885 = .ok (.iconst 0, 1) := by decide +kernel
theorem dL_law_886 : decode cL_law 886 = .ok (.ireturn, 1) := by decide +kernel
theorem dL_law_887 : decode cL_law 887 = .ok (.goto 738, 3) := by decide +kernel
theorem dL_law_890 : decode cL_law 890 = .ok (.aload_n 1, 1) := by decide +kernel
theorem dL_law_891 : decode cL_law 891 = .ok (.aload_n 0, 1) := by decide +kernel
theorem dL_law_892 : decode cL_law 892 = .ok (.iload 4, 2) := by decide +kernel
theorem dL_law_894 : decode cL_law 894 = .ok (.iconst 1, 1) := by decide +kernel
theorem dL_law_895 : decode cL_law 895 = .ok (.iadd, 1) := by decide +kernel
theorem dL_law_896 : decode cL_law 896 = .ok (.iaload, 1) := by decide +kernel
theorem dL_law_897 : decode cL_law 897 = .ok (.aload_n 0, 1) := by decide +kernel
theorem dL_law_898 : decode cL_law 898 = .ok (.iload 4, 2) := by decide +kernel
theorem dL_law_900 : decode cL_law 900 = .ok (.iconst 2, 1) := by decide +kernel
theorem dL_law_901 : decode cL_law 901 = .ok (.iadd, 1) := by decide +kernel
theorem dL_law_902 : decode cL_law 902 = .ok (.iaload, 1) := by decide +kernel
theorem dL_law_903 : decode cL_law 903 = .ok (.aload_n 0, 1) := by decide +kernel
theorem dL_law_904 : decode cL_law 904 = .ok (.iload 4, 2) := by decide +kernel
theorem dL_law_906 : decode cL_law 906 = .ok (.iconst 3, 1) := by decide +kernel
theorem dL_law_907 : decode cL_law 907 = .ok (.iadd, 1) := by decide +kernel
theorem dL_law_908 : decode cL_law 908 = .ok (.iaload, 1) := by decide +kernel
theorem dL_law_909 : decode cL_law 909 = .ok (.aload_n 3, 1) := by decide +kernel
theorem dL_law_910 : decode cL_law 910 = .ok (.invokestatic 136, 3) := by decide +kernel
theorem dL_law_913 : decode cL_law 913 = .ok (.istore 5, 2) := by decide +kernel
theorem dL_law_915 : decode cL_law 915 = .ok (.aload_n 2, 1) := by decide +kernel
theorem dL_law_916 : decode cL_law 916 = .ok (.aload_n 0, 1) := by decide +kernel
theorem dL_law_917 : decode cL_law 917 = .ok (.iload 4, 2) := by decide +kernel
theorem dL_law_919 : decode cL_law 919 = .ok (.iconst 1, 1) := by decide +kernel
theorem dL_law_920 : decode cL_law 920 = .ok (.iadd, 1) := by decide +kernel
theorem dL_law_921 : decode cL_law 921 = .ok (.iaload, 1) := by decide +kernel
theorem dL_law_922 : decode cL_law 922 = .ok (.aload_n 0, 1) := by decide +kernel
theorem dL_law_923 : decode cL_law 923 = .ok (.iload 4, 2) := by decide +kernel
theorem dL_law_925 : decode cL_law 925 = .ok (.iconst 2, 1) := by decide +kernel
theorem dL_law_926 : decode cL_law 926 = .ok (.iadd, 1) := by decide +kernel
theorem dL_law_927 : decode cL_law 927 = .ok (.iaload, 1) := by decide +kernel
theorem dL_law_928 : decode cL_law 928 = .ok (.aload_n 0, 1) := by decide +kernel
theorem dL_law_929 : decode cL_law 929 = .ok (.iload 4, 2) := by decide +kernel
theorem dL_law_931 : decode cL_law 931 = .ok (.iconst 3, 1) := by decide +kernel
theorem dL_law_932 : decode cL_law 932 = .ok (.iadd, 1) := by decide +kernel
theorem dL_law_933 : decode cL_law 933 = .ok (.iaload, 1) := by decide +kernel
theorem dL_law_934 : decode cL_law 934 = .ok (.invokevirtual 138, 3) := by decide +kernel
theorem dL_law_937 : decode cL_law 937 = .ok (.istore 6, 2) := by decide +kernel
theorem dL_law_939 : decode cL_law 939 = .ok (.aload_n 2, 1) := by decide +kernel
theorem dL_law_940 : decode cL_law 940 = .ok (.invokevirtual 92, 3) := by decide +kernel
theorem dL_law_943 : decode cL_law 943 = .ok (.iload 5, 2) := by decide +kernel
theorem dL_law_945 : decode cL_law 945 = .ok (.if_icmp .eq 5, 3) := by decide +kernel
theorem dL_law_948 : decode cL_law 948 = .ok (.iconst 0, 1) := by decide +kernel
theorem dL_law_949 : decode cL_law 949 = .ok (.ireturn, 1) := by decide +kernel
theorem dL_law_950 : decode cL_law 950 = .ok (.iload 5, 2) := by decide +kernel
theorem dL_law_952 : decode cL_law 952 = .ok (.ifCond .ne 15, 3) := by decide +kernel
theorem dL_law_955 : decode cL_law 955 = .ok (.aload_n 3, 1) := by decide +kernel
theorem dL_law_956 : decode cL_law 956 = .ok (.iconst 0, 1) := by decide +kernel
theorem dL_law_957 : decode cL_law 957 = .ok (.laload, 1) := by decide +kernel
theorem dL_law_958 : decode cL_law 958 = .ok (.iload 6, 2) := by decide +kernel
theorem dL_law_960 : decode cL_law 960 = .ok (.i2l, 1) := by decide +kernel
theorem dL_law_961 : decode cL_law 961 = .ok (.lcmp, 1) := by decide +kernel
theorem dL_law_962 : decode cL_law 962 = .ok (.ifCond .eq 5, 3) := by decide +kernel
theorem dL_law_965 : decode cL_law 965 = .ok (.iconst 0, 1) := by decide +kernel
theorem dL_law_966 : decode cL_law 966 = .ok (.ireturn, 1) := by decide +kernel
theorem dL_law_967 : decode cL_law 967 = .ok (.goto 658, 3) := by decide +kernel
theorem dL_law_970 : decode cL_law 970 = .ok (.aload_n 1, 1) := by decide +kernel
theorem dL_law_971 : decode cL_law 971 = .ok (.aload_n 0, 1) := by decide +kernel
theorem dL_law_972 : decode cL_law 972 = .ok (.iload 4, 2) := by decide +kernel
theorem dL_law_974 : decode cL_law 974 = .ok (.iconst 1, 1) := by decide +kernel
theorem dL_law_975 : decode cL_law 975 = .ok (.iadd, 1) := by decide +kernel
theorem dL_law_976 : decode cL_law 976 = .ok (.iaload, 1) := by decide +kernel
theorem dL_law_977 : decode cL_law 977 = .ok (.aload_n 0, 1) := by decide +kernel
theorem dL_law_978 : decode cL_law 978 = .ok (.iload 4, 2) := by decide +kernel
theorem dL_law_980 : decode cL_law 980 = .ok (.iconst 2, 1) := by decide +kernel
theorem dL_law_981 : decode cL_law 981 = .ok (.iadd, 1) := by decide +kernel
theorem dL_law_982 : decode cL_law 982 = .ok (.iaload, 1) := by decide +kernel
theorem dL_law_983 : decode cL_law 983 = .ok (.aload_n 0, 1) := by decide +kernel
theorem dL_law_984 : decode cL_law 984 = .ok (.iload 4, 2) := by decide +kernel
theorem dL_law_986 : decode cL_law 986 = .ok (.iconst 3, 1) := by decide +kernel
theorem dL_law_987 : decode cL_law 987 = .ok (.iadd, 1) := by decide +kernel
theorem dL_law_988 : decode cL_law 988 = .ok (.iaload, 1) := by decide +kernel
theorem dL_law_989 : decode cL_law 989 = .ok (.aload_n 3, 1) := by decide +kernel
theorem dL_law_990 : decode cL_law 990 = .ok (.invokestatic 139, 3) := by decide +kernel
theorem dL_law_993 : decode cL_law 993 = .ok (.istore 5, 2) := by decide +kernel
theorem dL_law_995 : decode cL_law 995 = .ok (.aload_n 2, 1) := by decide +kernel
theorem dL_law_996 : decode cL_law 996 = .ok (.aload_n 0, 1) := by decide +kernel
theorem dL_law_997 : decode cL_law 997 = .ok (.iload 4, 2) := by decide +kernel
theorem dL_law_999 : decode cL_law 999 = .ok (.iconst 1, 1) := by decide +kernel
theorem dL_law_1000 : decode cL_law 1000 = .ok (.iadd, 1) := by decide +kernel
theorem dL_law_1001 : decode cL_law 1001 = .ok (.iaload, 1) := by decide +kernel
theorem dL_law_1002 : decode cL_law 1002 = .ok (.aload_n 0, 1) := by decide +kernel
theorem dL_law_1003 : decode cL_law 1003 = .ok (.iload 4, 2) := by decide +kernel
theorem dL_law_1005 : decode cL_law 1005 = .ok (.iconst 2, 1) := by decide +kernel
theorem dL_law_1006 : decode cL_law 1006 = .ok (.iadd, 1) := by decide +kernel
theorem dL_law_1007 : decode cL_law 1007 = .ok (.iaload, 1) := by decide +kernel
theorem dL_law_1008 : decode cL_law 1008 = .ok (.aload_n 0, 1) := by decide +kernel
theorem dL_law_1009 : decode cL_law 1009 = .ok (.iload 4, 2) := by decide +kernel
theorem dL_law_1011 : decode cL_law 1011 = .ok (.iconst 3, 1) := by decide +kernel
theorem dL_law_1012 : decode cL_law 1012 = .ok (.iadd, 1) := by decide +kernel
theorem dL_law_1013 : decode cL_law 1013 = .ok (.iaload, 1) := by decide +kernel
theorem dL_law_1014 : decode cL_law 1014 = .ok (.invokevirtual 141, 3) := by decide +kernel
theorem dL_law_1017 : decode cL_law 1017 = .ok (.istore 6, 2) := by decide +kernel
theorem dL_law_1019 : decode cL_law 1019 = .ok (.aload_n 2, 1) := by decide +kernel
theorem dL_law_1020 : decode cL_law 1020 = .ok (.invokevirtual 92, 3) := by decide +kernel
theorem dL_law_1023 : decode cL_law 1023 = .ok (.iload 5, 2) := by decide +kernel
theorem dL_law_1025 : decode cL_law 1025 = .ok (.if_icmp .eq 5, 3) := by decide +kernel
theorem dL_law_1028 : decode cL_law 1028 = .ok (.iconst 0, 1) := by decide +kernel
theorem dL_law_1029 : decode cL_law 1029 = .ok (.ireturn, 1) := by decide +kernel
theorem dL_law_1030 : decode cL_law 1030 = .ok (.iload 5, 2) := by decide +kernel
theorem dL_law_1032 : decode cL_law 1032 = .ok (.ifCond .ne 15, 3) := by decide +kernel
theorem dL_law_1035 : decode cL_law 1035 = .ok (.aload_n 3, 1) := by decide +kernel
theorem dL_law_1036 : decode cL_law 1036 = .ok (.iconst 0, 1) := by decide +kernel
theorem dL_law_1037 : decode cL_law 1037 = .ok (.laload, 1) := by decide +kernel
theorem dL_law_1038 : decode cL_law 1038 = .ok (.iload 6, 2) := by decide +kernel
theorem dL_law_1040 : decode cL_law 1040 = .ok (.i2l, 1) := by decide +kernel
theorem dL_law_1041 : decode cL_law 1041 = .ok (.lcmp, 1) := by decide +kernel
theorem dL_law_1042 : decode cL_law 1042 = .ok (.ifCond .eq 5, 3) := by decide +kernel
theorem dL_law_1045 : decode cL_law 1045 = .ok (.iconst 0, 1) := by decide +kernel
theorem dL_law_1046 : decode cL_law 1046 = .ok (.ireturn, 1) := by decide +kernel
theorem dL_law_1047 : decode cL_law 1047 = .ok (.goto 578, 3) := by decide +kernel
theorem dL_law_1050 : decode cL_law 1050 = .ok (.aload_n 1, 1) := by decide +kernel
theorem dL_law_1051 : decode cL_law 1051 = .ok (.aload_n 0, 1) := by decide +kernel
theorem dL_law_1052 : decode cL_law 1052 = .ok (.iload 4, 2) := by decide +kernel
theorem dL_law_1054 : decode cL_law 1054 = .ok (.iconst 1, 1) := by decide +kernel
theorem dL_law_1055 : decode cL_law 1055 = .ok (.iadd, 1) := by decide +kernel
theorem dL_law_1056 : decode cL_law 1056 = .ok (.iaload, 1) := by decide +kernel
theorem dL_law_1057 : decode cL_law 1057 = .ok (.aload_n 0, 1) := by decide +kernel
theorem dL_law_1058 : decode cL_law 1058 = .ok (.iload 4, 2) := by decide +kernel
theorem dL_law_1060 : decode cL_law 1060 = .ok (.iconst 2, 1) := by decide +kernel
theorem dL_law_1061 : decode cL_law 1061 = .ok (.iadd, 1) := by decide +kernel
theorem dL_law_1062 : decode cL_law 1062 = .ok (.iaload, 1) := by decide +kernel
theorem dL_law_1063 : decode cL_law 1063 = .ok (.aload_n 3, 1) := by decide +kernel
theorem dL_law_1064 : decode cL_law 1064 = .ok (.invokestatic 142, 3) := by decide +kernel
theorem dL_law_1067 : decode cL_law 1067 = .ok (.istore 5, 2) := by decide +kernel
theorem dL_law_1069 : decode cL_law 1069 = .ok (.aload_n 2, 1) := by decide +kernel
theorem dL_law_1070 : decode cL_law 1070 = .ok (.aload_n 0, 1) := by decide +kernel
theorem dL_law_1071 : decode cL_law 1071 = .ok (.iload 4, 2) := by decide +kernel
theorem dL_law_1073 : decode cL_law 1073 = .ok (.iconst 1, 1) := by decide +kernel
theorem dL_law_1074 : decode cL_law 1074 = .ok (.iadd, 1) := by decide +kernel
theorem dL_law_1075 : decode cL_law 1075 = .ok (.iaload, 1) := by decide +kernel
theorem dL_law_1076 : decode cL_law 1076 = .ok (.aload_n 0, 1) := by decide +kernel
theorem dL_law_1077 : decode cL_law 1077 = .ok (.iload 4, 2) := by decide +kernel
theorem dL_law_1079 : decode cL_law 1079 = .ok (.iconst 2, 1) := by decide +kernel
theorem dL_law_1080 : decode cL_law 1080 = .ok (.iadd, 1) := by decide +kernel
theorem dL_law_1081 : decode cL_law 1081 = .ok (.iaload, 1) := by decide +kernel
theorem dL_law_1082 : decode cL_law 1082 = .ok (.invokevirtual 144, 3) := by decide +kernel
theorem dL_law_1085 : decode cL_law 1085 = .ok (.istore 6, 2) := by decide +kernel
theorem dL_law_1087 : decode cL_law 1087 = .ok (.aload_n 2, 1) := by decide +kernel
theorem dL_law_1088 : decode cL_law 1088 = .ok (.invokevirtual 92, 3) := by decide +kernel
theorem dL_law_1091 : decode cL_law 1091 = .ok (.iload 5, 2) := by decide +kernel
theorem dL_law_1093 : decode cL_law 1093 = .ok (.if_icmp .eq 5, 3) := by decide +kernel
theorem dL_law_1096 : decode cL_law 1096 = .ok (.iconst 0, 1) := by decide +kernel
theorem dL_law_1097 : decode cL_law 1097 = .ok (.ireturn, 1) := by decide +kernel
theorem dL_law_1098 : decode cL_law 1098 = .ok (.iload 5, 2) := by decide +kernel
theorem dL_law_1100 : decode cL_law 1100 = .ok (.ifCond .ne 15, 3) := by decide +kernel
theorem dL_law_1103 : decode cL_law 1103 = .ok (.aload_n 3, 1) := by decide +kernel
theorem dL_law_1104 : decode cL_law 1104 = .ok (.iconst 0, 1) := by decide +kernel
theorem dL_law_1105 : decode cL_law 1105 = .ok (.laload, 1) := by decide +kernel
theorem dL_law_1106 : decode cL_law 1106 = .ok (.iload 6, 2) := by decide +kernel
theorem dL_law_1108 : decode cL_law 1108 = .ok (.i2l, 1) := by decide +kernel
theorem dL_law_1109 : decode cL_law 1109 = .ok (.lcmp, 1) := by decide +kernel
theorem dL_law_1110 : decode cL_law 1110 = .ok (.ifCond .eq 5, 3) := by decide +kernel
theorem dL_law_1113 : decode cL_law 1113 = .ok (.iconst 0, 1) := by decide +kernel
theorem dL_law_1114 : decode cL_law 1114 = .ok (.ireturn, 1) := by decide +kernel
theorem dL_law_1115 : decode cL_law 1115 = .ok (.goto 510, 3) := by decide +kernel
theorem dL_law_1118 : decode cL_law 1118 = .ok (.aload_n 1, 1) := by decide +kernel
theorem dL_law_1119 : decode cL_law 1119 = .ok (.aload_n 0, 1) := by decide +kernel
theorem dL_law_1120 : decode cL_law 1120 = .ok (.iload 4, 2) := by decide +kernel
theorem dL_law_1122 : decode cL_law 1122 = .ok (.iconst 1, 1) := by decide +kernel
theorem dL_law_1123 : decode cL_law 1123 = .ok (.iadd, 1) := by decide +kernel
theorem dL_law_1124 : decode cL_law 1124 = .ok (.iaload, 1) := by decide +kernel
theorem dL_law_1125 : decode cL_law 1125 = .ok (.aload_n 3, 1) := by decide +kernel
theorem dL_law_1126 : decode cL_law 1126 = .ok (.invokestatic 145, 3) := by decide +kernel
theorem dL_law_1129 : decode cL_law 1129 = .ok (.istore 5, 2) := by decide +kernel
theorem dL_law_1131 : decode cL_law 1131 = .ok (.aload_n 2, 1) := by decide +kernel
theorem dL_law_1132 : decode cL_law 1132 = .ok (.aload_n 0, 1) := by decide +kernel
theorem dL_law_1133 : decode cL_law 1133 = .ok (.iload 4, 2) := by decide +kernel
theorem dL_law_1135 : decode cL_law 1135 = .ok (.iconst 1, 1) := by decide +kernel
theorem dL_law_1136 : decode cL_law 1136 = .ok (.iadd, 1) := by decide +kernel
theorem dL_law_1137 : decode cL_law 1137 = .ok (.iaload, 1) := by decide +kernel
theorem dL_law_1138 : decode cL_law 1138 = .ok (.invokevirtual 147, 3) := by decide +kernel
theorem dL_law_1141 : decode cL_law 1141 = .ok (.istore 6, 2) := by decide +kernel
theorem dL_law_1143 : decode cL_law 1143 = .ok (.aload_n 2, 1) := by decide +kernel
theorem dL_law_1144 : decode cL_law 1144 = .ok (.invokevirtual 92, 3) := by decide +kernel
theorem dL_law_1147 : decode cL_law 1147 = .ok (.iload 5, 2) := by decide +kernel
theorem dL_law_1149 : decode cL_law 1149 = .ok (.if_icmp .eq 5, 3) := by decide +kernel
theorem dL_law_1152 : decode cL_law 1152 = .ok (.iconst 0, 1) := by decide +kernel
theorem dL_law_1153 : decode cL_law 1153 = .ok (.ireturn, 1) := by decide +kernel
theorem dL_law_1154 : decode cL_law 1154 = .ok (.iload 5, 2) := by decide +kernel
theorem dL_law_1156 : decode cL_law 1156 = .ok (.ifCond .ne 15, 3) := by decide +kernel
theorem dL_law_1159 : decode cL_law 1159 = .ok (.aload_n 3, 1) := by decide +kernel
theorem dL_law_1160 : decode cL_law 1160 = .ok (.iconst 0, 1) := by decide +kernel
theorem dL_law_1161 : decode cL_law 1161 = .ok (.laload, 1) := by decide +kernel
theorem dL_law_1162 : decode cL_law 1162 = .ok (.iload 6, 2) := by decide +kernel
theorem dL_law_1164 : decode cL_law 1164 = .ok (.i2l, 1) := by decide +kernel
theorem dL_law_1165 : decode cL_law 1165 = .ok (.lcmp, 1) := by decide +kernel
theorem dL_law_1166 : decode cL_law 1166 = .ok (.ifCond .eq 5, 3) := by decide +kernel
theorem dL_law_1169 : decode cL_law 1169 = .ok (.iconst 0, 1) := by decide +kernel
theorem dL_law_1170 : decode cL_law 1170 = .ok (.ireturn, 1) := by decide +kernel
theorem dL_law_1171 : decode cL_law 1171 = .ok (.goto 454, 3) := by decide +kernel
theorem dL_law_1174 : decode cL_law 1174 = .ok (.aload_n 1, 1) := by decide +kernel
theorem dL_law_1175 : decode cL_law 1175 = .ok (.aload_n 0, 1) := by decide +kernel
theorem dL_law_1176 : decode cL_law 1176 = .ok (.iload 4, 2) := by decide +kernel
theorem dL_law_1178 : decode cL_law 1178 = .ok (.iconst 1, 1) := by decide +kernel
theorem dL_law_1179 : decode cL_law 1179 = .ok (.iadd, 1) := by decide +kernel
theorem dL_law_1180 : decode cL_law 1180 = .ok (.iaload, 1) := by decide +kernel
theorem dL_law_1181 : decode cL_law 1181 = .ok (.aload_n 0, 1) := by decide +kernel
theorem dL_law_1182 : decode cL_law 1182 = .ok (.iload 4, 2) := by decide +kernel
theorem dL_law_1184 : decode cL_law 1184 = .ok (.iconst 2, 1) := by decide +kernel
theorem dL_law_1185 : decode cL_law 1185 = .ok (.iadd, 1) := by decide +kernel
theorem dL_law_1186 : decode cL_law 1186 = .ok (.iaload, 1) := by decide +kernel
theorem dL_law_1187 : decode cL_law 1187 = .ok (.aload_n 3, 1) := by decide +kernel
theorem dL_law_1188 : decode cL_law 1188 = .ok (.invokestatic 148, 3) := by decide +kernel
theorem dL_law_1191 : decode cL_law 1191 = .ok (.istore 5, 2) := by decide +kernel
theorem dL_law_1193 : decode cL_law 1193 = .ok (.aload_n 2, 1) := by decide +kernel
theorem dL_law_1194 : decode cL_law 1194 = .ok (.aload_n 0, 1) := by decide +kernel
theorem dL_law_1195 : decode cL_law 1195 = .ok (.iload 4, 2) := by decide +kernel
theorem dL_law_1197 : decode cL_law 1197 = .ok (.iconst 1, 1) := by decide +kernel
theorem dL_law_1198 : decode cL_law 1198 = .ok (.iadd, 1) := by decide +kernel
theorem dL_law_1199 : decode cL_law 1199 = .ok (.iaload, 1) := by decide +kernel
theorem dL_law_1200 : decode cL_law 1200 = .ok (.aload_n 0, 1) := by decide +kernel
theorem dL_law_1201 : decode cL_law 1201 = .ok (.iload 4, 2) := by decide +kernel
theorem dL_law_1203 : decode cL_law 1203 = .ok (.iconst 2, 1) := by decide +kernel
theorem dL_law_1204 : decode cL_law 1204 = .ok (.iadd, 1) := by decide +kernel
theorem dL_law_1205 : decode cL_law 1205 = .ok (.iaload, 1) := by decide +kernel
theorem dL_law_1206 : decode cL_law 1206 = .ok (.invokevirtual 150, 3) := by decide +kernel
theorem dL_law_1209 : decode cL_law 1209 = .ok (.istore 6, 2) := by decide +kernel
theorem dL_law_1211 : decode cL_law 1211 = .ok (.aload_n 2, 1) := by decide +kernel
theorem dL_law_1212 : decode cL_law 1212 = .ok (.invokevirtual 92, 3) := by decide +kernel
theorem dL_law_1215 : decode cL_law 1215 = .ok (.iload 5, 2) := by decide +kernel
theorem dL_law_1217 : decode cL_law 1217 = .ok (.if_icmp .eq 5, 3) := by decide +kernel
theorem dL_law_1220 : decode cL_law 1220 = .ok (.iconst 0, 1) := by decide +kernel
theorem dL_law_1221 : decode cL_law 1221 = .ok (.ireturn, 1) := by decide +kernel
theorem dL_law_1222 : decode cL_law 1222 = .ok (.iload 5, 2) := by decide +kernel
theorem dL_law_1224 : decode cL_law 1224 = .ok (.ifCond .ne 15, 3) := by decide +kernel
theorem dL_law_1227 : decode cL_law 1227 = .ok (.aload_n 3, 1) := by decide +kernel
theorem dL_law_1228 : decode cL_law 1228 = .ok (.iconst 0, 1) := by decide +kernel
theorem dL_law_1229 : decode cL_law 1229 = .ok (.laload, 1) := by decide +kernel
theorem dL_law_1230 : decode cL_law 1230 = .ok (.iload 6, 2) := by decide +kernel
theorem dL_law_1232 : decode cL_law 1232 = .ok (.i2l, 1) := by decide +kernel
theorem dL_law_1233 : decode cL_law 1233 = .ok (.lcmp, 1) := by decide +kernel
theorem dL_law_1234 : decode cL_law 1234 = .ok (.ifCond .eq 5, 3) := by decide +kernel
theorem dL_law_1237 : decode cL_law 1237 = .ok (.iconst 0, 1) := by decide +kernel
theorem dL_law_1238 : decode cL_law 1238 = .ok (.ireturn, 1) := by decide +kernel
theorem dL_law_1239 : decode cL_law 1239 = .ok (.goto 386, 3) := by decide +kernel
theorem dL_law_1242 : decode cL_law 1242 = .ok (.aload_n 1, 1) := by decide +kernel
theorem dL_law_1243 : decode cL_law 1243 = .ok (.aload_n 0, 1) := by decide +kernel
theorem dL_law_1244 : decode cL_law 1244 = .ok (.iload 4, 2) := by decide +kernel
theorem dL_law_1246 : decode cL_law 1246 = .ok (.iconst 1, 1) := by decide +kernel
theorem dL_law_1247 : decode cL_law 1247 = .ok (.iadd, 1) := by decide +kernel
theorem dL_law_1248 : decode cL_law 1248 = .ok (.iaload, 1) := by decide +kernel
theorem dL_law_1249 : decode cL_law 1249 = .ok (.aload_n 0, 1) := by decide +kernel
theorem dL_law_1250 : decode cL_law 1250 = .ok (.iload 4, 2) := by decide +kernel
theorem dL_law_1252 : decode cL_law 1252 = .ok (.iconst 2, 1) := by decide +kernel
theorem dL_law_1253 : decode cL_law 1253 = .ok (.iadd, 1) := by decide +kernel
theorem dL_law_1254 : decode cL_law 1254 = .ok (.iaload, 1) := by decide +kernel
theorem dL_law_1255 : decode cL_law 1255 = .ok (.aload_n 3, 1) := by decide +kernel
theorem dL_law_1256 : decode cL_law 1256 = .ok (.invokestatic 151, 3) := by decide +kernel
theorem dL_law_1259 : decode cL_law 1259 = .ok (.istore 5, 2) := by decide +kernel
theorem dL_law_1261 : decode cL_law 1261 = .ok (.aload_n 2, 1) := by decide +kernel
theorem dL_law_1262 : decode cL_law 1262 = .ok (.aload_n 0, 1) := by decide +kernel
theorem dL_law_1263 : decode cL_law 1263 = .ok (.iload 4, 2) := by decide +kernel
theorem dL_law_1265 : decode cL_law 1265 = .ok (.iconst 1, 1) := by decide +kernel
theorem dL_law_1266 : decode cL_law 1266 = .ok (.iadd, 1) := by decide +kernel
theorem dL_law_1267 : decode cL_law 1267 = .ok (.iaload, 1) := by decide +kernel
theorem dL_law_1268 : decode cL_law 1268 = .ok (.aload_n 0, 1) := by decide +kernel
theorem dL_law_1269 : decode cL_law 1269 = .ok (.iload 4, 2) := by decide +kernel
theorem dL_law_1271 : decode cL_law 1271 = .ok (.iconst 2, 1) := by decide +kernel
theorem dL_law_1272 : decode cL_law 1272 = .ok (.iadd, 1) := by decide +kernel
theorem dL_law_1273 : decode cL_law 1273 = .ok (.iaload, 1) := by decide +kernel
theorem dL_law_1274 : decode cL_law 1274 = .ok (.invokevirtual 153, 3) := by decide +kernel
theorem dL_law_1277 : decode cL_law 1277 = .ok (.istore 6, 2) := by decide +kernel
theorem dL_law_1279 : decode cL_law 1279 = .ok (.aload_n 2, 1) := by decide +kernel
theorem dL_law_1280 : decode cL_law 1280 = .ok (.invokevirtual 92, 3) := by decide +kernel
theorem dL_law_1283 : decode cL_law 1283 = .ok (.iload 5, 2) := by decide +kernel
theorem dL_law_1285 : decode cL_law 1285 = .ok (.if_icmp .eq 5, 3) := by decide +kernel
theorem dL_law_1288 : decode cL_law 1288 = .ok (.iconst 0, 1) := by decide +kernel
theorem dL_law_1289 : decode cL_law 1289 = .ok (.ireturn, 1) := by decide +kernel
theorem dL_law_1290 : decode cL_law 1290 = .ok (.iload 5, 2) := by decide +kernel
theorem dL_law_1292 : decode cL_law 1292 = .ok (.ifCond .ne 15, 3) := by decide +kernel
theorem dL_law_1295 : decode cL_law 1295 = .ok (.aload_n 3, 1) := by decide +kernel
theorem dL_law_1296 : decode cL_law 1296 = .ok (.iconst 0, 1) := by decide +kernel
theorem dL_law_1297 : decode cL_law 1297 = .ok (.laload, 1) := by decide +kernel
theorem dL_law_1298 : decode cL_law 1298 = .ok (.iload 6, 2) := by decide +kernel
theorem dL_law_1300 : decode cL_law 1300 = .ok (.i2l, 1) := by decide +kernel
theorem dL_law_1301 : decode cL_law 1301 = .ok (.lcmp, 1) := by decide +kernel
theorem dL_law_1302 : decode cL_law 1302 = .ok (.ifCond .eq 5, 3) := by decide +kernel
theorem dL_law_1305 : decode cL_law 1305 = .ok (.iconst 0, 1) := by decide +kernel
theorem dL_law_1306 : decode cL_law 1306 = .ok (.ireturn, 1) := by decide +kernel
theorem dL_law_1307 : decode cL_law 1307 = .ok (.goto 318, 3) := by decide +kernel
theorem dL_law_1310 : decode cL_law 1310 = .ok (.aload_n 1, 1) := by decide +kernel
theorem dL_law_1311 : decode cL_law 1311 = .ok (.aload_n 0, 1) := by decide +kernel
theorem dL_law_1312 : decode cL_law 1312 = .ok (.iload 4, 2) := by decide +kernel
theorem dL_law_1314 : decode cL_law 1314 = .ok (.iconst 1, 1) := by decide +kernel
theorem dL_law_1315 : decode cL_law 1315 = .ok (.iadd, 1) := by decide +kernel
theorem dL_law_1316 : decode cL_law 1316 = .ok (.iaload, 1) := by decide +kernel
theorem dL_law_1317 : decode cL_law 1317 = .ok (.aload_n 0, 1) := by decide +kernel
theorem dL_law_1318 : decode cL_law 1318 = .ok (.iload 4, 2) := by decide +kernel
theorem dL_law_1320 : decode cL_law 1320 = .ok (.iconst 2, 1) := by decide +kernel
theorem dL_law_1321 : decode cL_law 1321 = .ok (.iadd, 1) := by decide +kernel
theorem dL_law_1322 : decode cL_law 1322 = .ok (.iaload, 1) := by decide +kernel
theorem dL_law_1323 : decode cL_law 1323 = .ok (.aload_n 3, 1) := by decide +kernel
theorem dL_law_1324 : decode cL_law 1324 = .ok (.invokestatic 154, 3) := by decide +kernel
theorem dL_law_1327 : decode cL_law 1327 = .ok (.istore 5, 2) := by decide +kernel
theorem dL_law_1329 : decode cL_law 1329 = .ok (.aload_n 2, 1) := by decide +kernel
theorem dL_law_1330 : decode cL_law 1330 = .ok (.aload_n 0, 1) := by decide +kernel
theorem dL_law_1331 : decode cL_law 1331 = .ok (.iload 4, 2) := by decide +kernel
theorem dL_law_1333 : decode cL_law 1333 = .ok (.iconst 1, 1) := by decide +kernel
theorem dL_law_1334 : decode cL_law 1334 = .ok (.iadd, 1) := by decide +kernel
theorem dL_law_1335 : decode cL_law 1335 = .ok (.iaload, 1) := by decide +kernel
theorem dL_law_1336 : decode cL_law 1336 = .ok (.aload_n 0, 1) := by decide +kernel
theorem dL_law_1337 : decode cL_law 1337 = .ok (.iload 4, 2) := by decide +kernel
theorem dL_law_1339 : decode cL_law 1339 = .ok (.iconst 2, 1) := by decide +kernel
theorem dL_law_1340 : decode cL_law 1340 = .ok (.iadd, 1) := by decide +kernel
theorem dL_law_1341 : decode cL_law 1341 = .ok (.iaload, 1) := by decide +kernel
theorem dL_law_1342 : decode cL_law 1342 = .ok (.invokevirtual 156, 3) := by decide +kernel
theorem dL_law_1345 : decode cL_law 1345 = .ok (.istore 6, 2) := by decide +kernel
theorem dL_law_1347 : decode cL_law 1347 = .ok (.aload_n 2, 1) := by decide +kernel
theorem dL_law_1348 : decode cL_law 1348 = .ok (.invokevirtual 92, 3) := by decide +kernel
theorem dL_law_1351 : decode cL_law 1351 = .ok (.iload 5, 2) := by decide +kernel
theorem dL_law_1353 : decode cL_law 1353 = .ok (.if_icmp .eq 5, 3) := by decide +kernel
theorem dL_law_1356 : decode cL_law 1356 = .ok (.iconst 0, 1) := by decide +kernel
theorem dL_law_1357 : decode cL_law 1357 = .ok (.ireturn, 1) := by decide +kernel
theorem dL_law_1358 : decode cL_law 1358 = .ok (.iload 5, 2) := by decide +kernel
theorem dL_law_1360 : decode cL_law 1360 = .ok (.ifCond .ne 15, 3) := by decide +kernel
theorem dL_law_1363 : decode cL_law 1363 = .ok (.aload_n 3, 1) := by decide +kernel
theorem dL_law_1364 : decode cL_law 1364 = .ok (.iconst 0, 1) := by decide +kernel
theorem dL_law_1365 : decode cL_law 1365 = .ok (.laload, 1) := by decide +kernel
theorem dL_law_1366 : decode cL_law 1366 = .ok (.iload 6, 2) := by decide +kernel
theorem dL_law_1368 : decode cL_law 1368 = .ok (.i2l, 1) := by decide +kernel
theorem dL_law_1369 : decode cL_law 1369 = .ok (.lcmp, 1) := by decide +kernel
theorem dL_law_1370 : decode cL_law 1370 = .ok (.ifCond .eq 5, 3) := by decide +kernel
theorem dL_law_1373 : decode cL_law 1373 = .ok (.iconst 0, 1) := by decide +kernel
theorem dL_law_1374 : decode cL_law 1374 = .ok (.ireturn, 1) := by decide +kernel
theorem dL_law_1375 : decode cL_law 1375 = .ok (.goto 250, 3) := by decide +kernel
theorem dL_law_1378 : decode cL_law 1378 = .ok (.aload_n 1, 1) := by decide +kernel
theorem dL_law_1379 : decode cL_law 1379 = .ok (.aload_n 0, 1) := by decide +kernel
theorem dL_law_1380 : decode cL_law 1380 = .ok (.iload 4, 2) := by decide +kernel
theorem dL_law_1382 : decode cL_law 1382 = .ok (.iconst 1, 1) := by decide +kernel
theorem dL_law_1383 : decode cL_law 1383 = .ok (.iadd, 1) := by decide +kernel
theorem dL_law_1384 : decode cL_law 1384 = .ok (.iaload, 1) := by decide +kernel
theorem dL_law_1385 : decode cL_law 1385 = .ok (.aload_n 3, 1) := by decide +kernel
theorem dL_law_1386 : decode cL_law 1386 = .ok (.invokestatic 157, 3) := by decide +kernel
theorem dL_law_1389 : decode cL_law 1389 = .ok (.istore 5, 2) := by decide +kernel
theorem dL_law_1391 : decode cL_law 1391 = .ok (.aload_n 2, 1) := by decide +kernel
theorem dL_law_1392 : decode cL_law 1392 = .ok (.aload_n 0, 1) := by decide +kernel
theorem dL_law_1393 : decode cL_law 1393 = .ok (.iload 4, 2) := by decide +kernel
theorem dL_law_1395 : decode cL_law 1395 = .ok (.iconst 1, 1) := by decide +kernel
theorem dL_law_1396 : decode cL_law 1396 = .ok (.iadd, 1) := by decide +kernel
theorem dL_law_1397 : decode cL_law 1397 = .ok (.iaload, 1) := by decide +kernel
theorem dL_law_1398 : decode cL_law 1398 = .ok (.invokevirtual 159, 3) := by decide +kernel
theorem dL_law_1401 : decode cL_law 1401 = .ok (.istore 6, 2) := by decide +kernel
theorem dL_law_1403 : decode cL_law 1403 = .ok (.aload_n 2, 1) := by decide +kernel
theorem dL_law_1404 : decode cL_law 1404 = .ok (.invokevirtual 92, 3) := by decide +kernel
theorem dL_law_1407 : decode cL_law 1407 = .ok (.iload 5, 2) := by decide +kernel
theorem dL_law_1409 : decode cL_law 1409 = .ok (.if_icmp .eq 5, 3) := by decide +kernel
theorem dL_law_1412 : decode cL_law 1412 = .ok (.iconst 0, 1) := by decide +kernel
theorem dL_law_1413 : decode cL_law 1413 = .ok (.ireturn, 1) := by decide +kernel
theorem dL_law_1414 : decode cL_law 1414 = .ok (.iload 5, 2) := by decide +kernel
theorem dL_law_1416 : decode cL_law 1416 = .ok (.ifCond .ne 15, 3) := by decide +kernel
theorem dL_law_1419 : decode cL_law 1419 = .ok (.aload_n 3, 1) := by decide +kernel
theorem dL_law_1420 : decode cL_law 1420 = .ok (.iconst 0, 1) := by decide +kernel
theorem dL_law_1421 : decode cL_law 1421 = .ok (.laload, 1) := by decide +kernel
theorem dL_law_1422 : decode cL_law 1422 = .ok (.iload 6, 2) := by decide +kernel
theorem dL_law_1424 : decode cL_law 1424 = .ok (.i2l, 1) := by decide +kernel
theorem dL_law_1425 : decode cL_law 1425 = .ok (.lcmp, 1) := by decide +kernel
theorem dL_law_1426 : decode cL_law 1426 = .ok (.ifCond .eq 5, 3) := by decide +kernel
theorem dL_law_1429 : decode cL_law 1429 = .ok (.iconst 0, 1) := by decide +kernel
theorem dL_law_1430 : decode cL_law 1430 = .ok (.ireturn, 1) := by decide +kernel
theorem dL_law_1431 : decode cL_law 1431 = .ok (.goto 194, 3) := by decide +kernel
theorem dL_law_1434 : decode cL_law 1434 = .ok (.aload_n 1, 1) := by decide +kernel
theorem dL_law_1435 : decode cL_law 1435 = .ok (.aload_n 0, 1) := by decide +kernel
theorem dL_law_1436 : decode cL_law 1436 = .ok (.iload 4, 2) := by decide +kernel
theorem dL_law_1438 : decode cL_law 1438 = .ok (.iconst 1, 1) := by decide +kernel
theorem dL_law_1439 : decode cL_law 1439 = .ok (.iadd, 1) := by decide +kernel
theorem dL_law_1440 : decode cL_law 1440 = .ok (.iaload, 1) := by decide +kernel
theorem dL_law_1441 : decode cL_law 1441 = .ok (.aload_n 0, 1) := by decide +kernel
theorem dL_law_1442 : decode cL_law 1442 = .ok (.iload 4, 2) := by decide +kernel
theorem dL_law_1444 : decode cL_law 1444 = .ok (.iconst 2, 1) := by decide +kernel
theorem dL_law_1445 : decode cL_law 1445 = .ok (.iadd, 1) := by decide +kernel
theorem dL_law_1446 : decode cL_law 1446 = .ok (.iaload, 1) := by decide +kernel
theorem dL_law_1447 : decode cL_law 1447 = .ok (.aload_n 3, 1) := by decide +kernel
theorem dL_law_1448 : decode cL_law 1448 = .ok (.invokestatic 160, 3) := by decide +kernel
theorem dL_law_1451 : decode cL_law 1451 = .ok (.istore 5, 2) := by decide +kernel
theorem dL_law_1453 : decode cL_law 1453 = .ok (.aload_n 2, 1) := by decide +kernel
theorem dL_law_1454 : decode cL_law 1454 = .ok (.aload_n 0, 1) := by decide +kernel
theorem dL_law_1455 : decode cL_law 1455 = .ok (.iload 4, 2) := by decide +kernel
theorem dL_law_1457 : decode cL_law 1457 = .ok (.iconst 1, 1) := by decide +kernel
theorem dL_law_1458 : decode cL_law 1458 = .ok (.iadd, 1) := by decide +kernel
theorem dL_law_1459 : decode cL_law 1459 = .ok (.iaload, 1) := by decide +kernel
theorem dL_law_1460 : decode cL_law 1460 = .ok (.aload_n 0, 1) := by decide +kernel
theorem dL_law_1461 : decode cL_law 1461 = .ok (.iload 4, 2) := by decide +kernel
theorem dL_law_1463 : decode cL_law 1463 = .ok (.iconst 2, 1) := by decide +kernel
theorem dL_law_1464 : decode cL_law 1464 = .ok (.iadd, 1) := by decide +kernel
theorem dL_law_1465 : decode cL_law 1465 = .ok (.iaload, 1) := by decide +kernel
theorem dL_law_1466 : decode cL_law 1466 = .ok (.invokevirtual 162, 3) := by decide +kernel
theorem dL_law_1469 : decode cL_law 1469 = .ok (.istore 6, 2) := by decide +kernel
theorem dL_law_1471 : decode cL_law 1471 = .ok (.aload_n 2, 1) := by decide +kernel
theorem dL_law_1472 : decode cL_law 1472 = .ok (.invokevirtual 92, 3) := by decide +kernel
theorem dL_law_1475 : decode cL_law 1475 = .ok (.iload 5, 2) := by decide +kernel
theorem dL_law_1477 : decode cL_law 1477 = .ok (.if_icmp .eq 5, 3) := by decide +kernel
theorem dL_law_1480 : decode cL_law 1480 = .ok (.iconst 0, 1) := by decide +kernel
theorem dL_law_1481 : decode cL_law 1481 = .ok (.ireturn, 1) := by decide +kernel
theorem dL_law_1482 : decode cL_law 1482 = .ok (.iload 5, 2) := by decide +kernel
theorem dL_law_1484 : decode cL_law 1484 = .ok (.ifCond .ne 15, 3) := by decide +kernel
theorem dL_law_1487 : decode cL_law 1487 = .ok (.aload_n 3, 1) := by decide +kernel
theorem dL_law_1488 : decode cL_law 1488 = .ok (.iconst 0, 1) := by decide +kernel
theorem dL_law_1489 : decode cL_law 1489 = .ok (.laload, 1) := by decide +kernel
theorem dL_law_1490 : decode cL_law 1490 = .ok (.iload 6, 2) := by decide +kernel
theorem dL_law_1492 : decode cL_law 1492 = .ok (.i2l, 1) := by decide +kernel
theorem dL_law_1493 : decode cL_law 1493 = .ok (.lcmp, 1) := by decide +kernel
theorem dL_law_1494 : decode cL_law 1494 = .ok (.ifCond .eq 5, 3) := by decide +kernel
theorem dL_law_1497 : decode cL_law 1497 = .ok (.iconst 0, 1) := by decide +kernel
theorem dL_law_1498 : decode cL_law 1498 = .ok (.ireturn, 1) := by decide +kernel
theorem dL_law_1499 : decode cL_law 1499 = .ok (.goto 126, 3) := by decide +kernel
theorem dL_law_1502 : decode cL_law 1502 = .ok (.aload_n 1, 1) := by decide +kernel
theorem dL_law_1503 : decode cL_law 1503 = .ok (.aload_n 0, 1) := by decide +kernel
theorem dL_law_1504 : decode cL_law 1504 = .ok (.iload 4, 2) := by decide +kernel
theorem dL_law_1506 : decode cL_law 1506 = .ok (.iconst 1, 1) := by decide +kernel
theorem dL_law_1507 : decode cL_law 1507 = .ok (.iadd, 1) := by decide +kernel
theorem dL_law_1508 : decode cL_law 1508 = .ok (.iaload, 1) := by decide +kernel
theorem dL_law_1509 : decode cL_law 1509 = .ok (.aload_n 0, 1) := by decide +kernel
theorem dL_law_1510 : decode cL_law 1510 = .ok (.iload 4, 2) := by decide +kernel
theorem dL_law_1512 : decode cL_law 1512 = .ok (.iconst 2, 1) := by decide +kernel
theorem dL_law_1513 : decode cL_law 1513 = .ok (.iadd, 1) := by decide +kernel
theorem dL_law_1514 : decode cL_law 1514 = .ok (.iaload, 1) := by decide +kernel
theorem dL_law_1515 : decode cL_law 1515 = .ok (.aload_n 3, 1) := by decide +kernel
theorem dL_law_1516 : decode cL_law 1516 = .ok (.invokestatic 163, 3) := by decide +kernel
theorem dL_law_1519 : decode cL_law 1519 = .ok (.istore 5, 2) := by decide +kernel
theorem dL_law_1521 : decode cL_law 1521 = .ok (.aload_n 2, 1) := by decide +kernel
theorem dL_law_1522 : decode cL_law 1522 = .ok (.aload_n 0, 1) := by decide +kernel
theorem dL_law_1523 : decode cL_law 1523 = .ok (.iload 4, 2) := by decide +kernel
theorem dL_law_1525 : decode cL_law 1525 = .ok (.iconst 1, 1) := by decide +kernel
theorem dL_law_1526 : decode cL_law 1526 = .ok (.iadd, 1) := by decide +kernel
theorem dL_law_1527 : decode cL_law 1527 = .ok (.iaload, 1) := by decide +kernel
theorem dL_law_1528 : decode cL_law 1528 = .ok (.aload_n 0, 1) := by decide +kernel
theorem dL_law_1529 : decode cL_law 1529 = .ok (.iload 4, 2) := by decide +kernel
theorem dL_law_1531 : decode cL_law 1531 = .ok (.iconst 2, 1) := by decide +kernel
theorem dL_law_1532 : decode cL_law 1532 = .ok (.iadd, 1) := by decide +kernel
theorem dL_law_1533 : decode cL_law 1533 = .ok (.iaload, 1) := by decide +kernel
theorem dL_law_1534 : decode cL_law 1534 = .ok (.invokevirtual 165, 3) := by decide +kernel
theorem dL_law_1537 : decode cL_law 1537 = .ok (.istore 6, 2) := by decide +kernel
theorem dL_law_1539 : decode cL_law 1539 = .ok (.aload_n 2, 1) := by decide +kernel
theorem dL_law_1540 : decode cL_law 1540 = .ok (.invokevirtual 92, 3) := by decide +kernel
theorem dL_law_1543 : decode cL_law 1543 = .ok (.iload 5, 2) := by decide +kernel
theorem dL_law_1545 : decode cL_law 1545 = .ok (.if_icmp .eq 5, 3) := by decide +kernel
theorem dL_law_1548 : decode cL_law 1548 = .ok (.iconst 0, 1) := by decide +kernel
theorem dL_law_1549 : decode cL_law 1549 = .ok (.ireturn, 1) := by decide +kernel
theorem dL_law_1550 : decode cL_law 1550 = .ok (.iload 5, 2) := by decide +kernel
theorem dL_law_1552 : decode cL_law 1552 = .ok (.ifCond .ne 15, 3) := by decide +kernel
theorem dL_law_1555 : decode cL_law 1555 = .ok (.aload_n 3, 1) := by decide +kernel
theorem dL_law_1556 : decode cL_law 1556 = .ok (.iconst 0, 1) := by decide +kernel
theorem dL_law_1557 : decode cL_law 1557 = .ok (.laload, 1) := by decide +kernel
theorem dL_law_1558 : decode cL_law 1558 = .ok (.iload 6, 2) := by decide +kernel
theorem dL_law_1560 : decode cL_law 1560 = .ok (.i2l, 1) := by decide +kernel
theorem dL_law_1561 : decode cL_law 1561 = .ok (.lcmp, 1) := by decide +kernel
theorem dL_law_1562 : decode cL_law 1562 = .ok (.ifCond .eq 5, 3) := by decide +kernel
theorem dL_law_1565 : decode cL_law 1565 = .ok (.iconst 0, 1) := by decide +kernel
theorem dL_law_1566 : decode cL_law 1566 = .ok (.ireturn, 1) := by decide +kernel
theorem dL_law_1567 : decode cL_law 1567 = .ok (.goto 58, 3) := by decide +kernel
theorem dL_law_1570 : decode cL_law 1570 = .ok (.aload_n 1, 1) := by decide +kernel
theorem dL_law_1571 : decode cL_law 1571 = .ok (.invokevirtual 166, 3) := by decide +kernel
theorem dL_law_1574 : decode cL_law 1574 = .ok (.dstore 5, 2) := by decide +kernel
theorem dL_law_1576 : decode cL_law 1576 = .ok (.aload_n 2, 1) := by decide +kernel
theorem dL_law_1577 : decode cL_law 1577 = .ok (.invokevirtual 170, 3) := by decide +kernel
theorem dL_law_1580 : decode cL_law 1580 = .ok (.dstore 7, 2) := by decide +kernel
theorem dL_law_1582 : decode cL_law 1582 = .ok (.dload 5, 2) := by decide +kernel
theorem dL_law_1584 : decode cL_law 1584 = .ok (.dload 7, 2) := by decide +kernel
theorem dL_law_1586 : decode cL_law 1586 = .ok (.dcmp .l, 1) := by decide +kernel
theorem dL_law_1587 : decode cL_law 1587 = .ok (.ifCond .eq 21, 3) := by decide +kernel
theorem dL_law_1590 : decode cL_law 1590 = .ok (.dload 5, 2) := by decide +kernel
theorem dL_law_1592 : decode cL_law 1592 = .ok (.dload 5, 2) := by decide +kernel
theorem dL_law_1594 : decode cL_law 1594 = .ok (.dcmp .l, 1) := by decide +kernel
theorem dL_law_1595 : decode cL_law 1595 = .ok (.ifCond .eq 11, 3) := by decide +kernel
theorem dL_law_1598 : decode cL_law 1598 = .ok (.dload 7, 2) := by decide +kernel
theorem dL_law_1600 : decode cL_law 1600 = .ok (.dload 7, 2) := by decide +kernel
theorem dL_law_1602 : decode cL_law 1602 = .ok (.dcmp .l, 1) := by decide +kernel
theorem dL_law_1603 : decode cL_law 1603 = .ok (.ifCond .ne 5, 3) := by decide +kernel
theorem dL_law_1606 : decode cL_law 1606 = .ok (.iconst 0, 1) := by decide +kernel
theorem dL_law_1607 : decode cL_law 1607 = .ok (.ireturn, 1) := by decide +kernel
theorem dL_law_1608 : decode cL_law 1608 = .ok (.goto 17, 3) := by decide +kernel
theorem dL_law_1611 : decode cL_law 1611 = .ok (.aload_n 1, 1) := by decide +kernel
theorem dL_law_1612 : decode cL_law 1612 = .ok (.invokevirtual 171, 3) := by decide +kernel
theorem dL_law_1615 : decode cL_law 1615 = .ok (.aload_n 2, 1) := by decide +kernel
theorem dL_law_1616 : decode cL_law 1616 = .ok (.invokevirtual 175, 3) := by decide +kernel
theorem dL_law_1619 : decode cL_law 1619 = .ok (.lcmp, 1) := by decide +kernel
theorem dL_law_1620 : decode cL_law 1620 = .ok (.ifCond .eq 5, 3) := by decide +kernel
theorem dL_law_1623 : decode cL_law 1623 = .ok (.iconst 0, 1) := by decide +kernel
theorem dL_law_1624 : decode cL_law 1624 = .ok (.ireturn, 1) := by decide +kernel
theorem dL_law_1625 : decode cL_law 1625 = .ok (.iinc 4 4, 3) := by decide +kernel
theorem dL_law_1628 : decode cL_law 1628 = .ok (.goto (-1605), 3) := by decide +kernel
theorem dL_law_1631 : decode cL_law 1631 = .ok (.iconst 1, 1) := by decide +kernel
theorem dL_law_1632 : decode cL_law 1632 = .ok (.ireturn, 1) := by decide +kernel
end
section
/-! THE LAYER OF THIS CLAIM: one list of words, one environment, contracts of readers (Rd) and writers (Wr), and the judgement V: W over any heap that holds a world -/
def LW : List Cond := lw_tbl.filter goodWord
theorem LW_mk {w : Cond} (i : Nat) (h : lw_tbl[i]? = some w) (hg : goodWord w = true) : w ∈ LW := List.mem_filter.mpr ⟨List.mem_of_getElem? h, hg⟩
theorem LW_good {w : Cond} (h : w ∈ LW) : goodWord w = true := (List.mem_filter.mp h).2
theorem LW_GI : GoodIn LW LW := fun _ h => ⟨h, good_of_word (LW_good h)⟩
theorem LW_GIc {w : Cond} (h : w ∈ LW) : GoodIn LW (w :: LW) := fun x hx => (List.mem_cons.mp hx).elim (fun e => by rw [e]; exact LW_GI w h) (LW_GI x)
theorem LW_GIl {l : List Cond} {w : Cond} (hl : ∀ x ∈ l, x ∈ LW) (h : w ∈ LW) : GoodIn LW (l ++ w :: LW) := fun x hx => (List.mem_append.mp hx).elim (fun e => LW_GI x (hl x e)) (LW_GIc h x)
def nwOk : Cond → Bool
  | .fieldLinkNest .. => true
  | .methodLinkNest .. => true
  | .castable .. => true
  | .declares .. => true
  | _ => false
def NWL : List Cond := lw_tbl.filter (fun w => !goodWord w && nwOk w)
theorem NWL_mk {w : Cond} (i : Nat) (h : lw_tbl[i]? = some w) (hg : (!goodWord w && nwOk w) = true) : w ∈ NWL := List.mem_filter.mpr ⟨List.mem_of_getElem? h, hg⟩
theorem NWL_ok {w : Cond} (h : w ∈ NWL) : nwOk w = true := (Bool.and_eq_true _ _ ▸ (List.mem_filter.mp h).2 : _ ∧ _).2
theorem nw_warm {w : Cond} (h : nwOk w = true) {s U : State} (hW : s.WarmedH U.vm) (hZ : va_Nw w s) : va_Nw w U := by
  cases w <;> first | (exact va_Nw.warmF hW hZ) | (exact va_Nw.warmM hW hZ) | (exact va_Nw.warmC hW hZ) | (exact va_Nw.warmD hW hZ) | (simp [nwOk] at h)
abbrev EV : Type := va_G × (ClassId × ClassId × ClassId) × (Nat → Nat) × (Nat → Nat)
abbrev eK (E : EV) : ClassId := E.2.1.1
abbrev eKs (E : EV) : ClassId := E.2.1.2.1
abbrev eKl (E : EV) : ClassId := E.2.1.2.2
abbrev eTab (E : EV) : Nat → Nat := E.2.2.1
abbrev eStr (E : EV) : Nat → Nat := E.2.2.2
abbrev eT (E : EV) : List (ClassId × FieldType) := [(eK E, .int), (eKs E, .object RX5), (eKl E, .long)]
def tCnt : Nat → Int32 := fun j => match j with
  | 0 => 20 | 1 => 15 | 2 => 10 | 3 => 12 | 4 => 30 | 5 => 25 | _ => 0
def tBar : Nat → Int32 := fun j => match j with
  | 0 => 3 | 1 => 28 | 2 => 63 | 3 => 48 | 4 => 32 | 5 => 35 | _ => 0
def tHur : Nat → Int32 := fun j => match j with
  | 0 => 1 | 1 => 4 | 2 => 16 | 3 => 16 | 4 => 4 | 5 => 1 | _ => 0
def Tb (n : String) (t : Nat) (f : Nat → Int32) (A : Nat → Prop) (U : State) (H : Heap) : Prop := va_Z "StuntDesk" n "[I" (.ref t) A U H ∧ va_T .int t 6 (fun j => .int (f j)) A U H
def SZ (E : EV) (A : Nat → Prop) (U : State) (H : Heap) : Prop := Tb "COUNTING_DAYS" (eTab E 0) tCnt A U H ∧ Tb "BARRING_PARTS" (eTab E 1) tBar A U H ∧ Tb "PARTS_HURT_WHEN_TIRED" (eTab E 2) tHur A U H
def NW (U : State) : Prop := ∀ w ∈ NWL, va_Nw w U
def XS (E : EV) (U : State) : Prop := vk_R RX6 273 "no such person" (eStr E 0) U ∧ vk_R RX6 278 "no such kind" (eStr E 1) U ∧ vk_R RX6 280 "no such scene" (eStr E 2) U ∧ vk_R RX6 284 "an argument is not one of those that are allowed" (eStr E 3) U ∧ vk_R RX6 289 "this is not possible now" (eStr E 4) U
abbrev xI : String := "java/lang/IndexOutOfBoundsException"
abbrev xA : String := "java/lang/IllegalArgumentException"
abbrev xS : String := "java/lang/IllegalStateException"
def XN (U : State) : Prop := va_Nc xI xA U ∧ va_Nc xI xS U ∧ va_Nc xA xI U ∧ va_Nc xA xS U ∧ va_Nc xS xI U ∧ va_Nc xS xA U
def XZ (A : Nat → Prop) (U : State) (H : Heap) : Prop := vx_Zq Bundle.tN "UNASSIGNED_STACK" Bundle.steD A U H ∧ vx_Zq Bundle.tN "SUPPRESSED_SENTINEL" Bundle.listD A U H
def CE (E : EV) (A : Nat → Prop) (U : State) (H : Heap) : Prop := va_K E.1 vwCl (eT E) U ∧ NW U ∧ SZ E A U H ∧ XS E U ∧ XN U ∧ XZ A U H
theorem Tb.tr {n : String} {t : Nat} {f : Nat → Int32} {A B : Nat → Prop} {u U : State} {H H1 : Heap} (h : Tb n t f A u H) (hvm : u.vm.Alike U.vm) (hq : ∀ a : Nat, a < H.size → ¬ A a → H1[a]? = H[a]?) (hAB : ∀ q, B q → A q) : Tb n t f B U H1 :=
  ⟨((h.1.kept hq).narrow hAB).moved hvm, ((h.2.kept hq).narrow hAB).moved hvm⟩
theorem CE.tr {E : EV} {A B : Nat → Prop} {u U : State} {H H1 : Heap} (h : CE E A u H) (hW : u.WarmedH U.vm) (hq : ∀ a : Nat, a < H.size → ¬ A a → H1[a]? = H[a]?) (hAB : ∀ q, B q → A q) : CE E B U H1 := by
  have hvm : u.vm.Alike U.vm := hW.alike
  obtain ⟨h1, h2, ⟨a1, a2, a3⟩, ⟨s1, s2, s3, s4, s5⟩, ⟨n1, n2, n3, n4, n5, n6⟩, z1, z2⟩ := h
  exact ⟨h1.moved hvm, fun w hw => nw_warm (NWL_ok hw) hW (h2 w hw), ⟨a1.tr hvm hq hAB, a2.tr hvm hq hAB, a3.tr hvm hq hAB⟩, ⟨s1.warm hW, s2.warm hW, s3.warm hW, s4.warm hW, s5.warm hW⟩,
    ⟨n1.moved hvm, n2.moved hvm, n3.moved hvm, n4.moved hvm, n5.moved hvm, n6.moved hvm⟩, ((z1.kept hq).narrow hAB).moved hvm, ((z2.kept hq).narrow hAB).moved hvm⟩
theorem CE.same {E : EV} {A : Nat → Prop} {u U : State} {H : Heap} (h : CE E A u H) (hvm : U.vm = u.vm) : CE E A U H := by
  obtain ⟨h1, h2, ⟨a1, a2, a3⟩, ⟨s1, s2, s3, s4, s5⟩, ⟨n1, n2, n3, n4, n5, n6⟩, z1, z2⟩ := h
  have ha : u.vm.Alike U.vm := by rw [hvm]; exact Vm.Alike.refl _
  exact ⟨h1.moved ha, fun w hw => va_Nw.same (by have := NWL_ok hw; cases w <;> first | rfl | (simp [nwOk] at this)) hvm.symm (h2 w hw), ⟨a1.tr ha (fun _ _ _ => rfl) (fun _ x => x), a2.tr ha (fun _ _ _ => rfl) (fun _ x => x), a3.tr ha (fun _ _ _ => rfl) (fun _ x => x)⟩, ⟨vk_R.same hvm s1, vk_R.same hvm s2, vk_R.same hvm s3, vk_R.same hvm s4, vk_R.same hvm s5⟩,
    ⟨n1.moved ha, n2.moved ha, n3.moved ha, n4.moved ha, n5.moved ha, n6.moved ha⟩, z1.moved ha, z2.moved ha⟩
/-! contracts -/
def PB (E : EV) (ws : va_W) : State → Prop := fun U => va_P E.1 vwCl ws U.heap ∧ CE E (fun _ => False) U U.heap
def RQ (v : Option Value) : Array Value → State → Outcome → State → Prop := fun _ st o t => o = .returned v ∧ t.heap = st.heap
abbrev ads (ws : va_W) : List Nat := ws.map Prod.fst
def PW (E : EV) (ws : va_W) : State → Prop := fun U => va_P E.1 vwCl ws U.heap ∧ (ads ws).Nodup ∧ CE E (fun q => q ∈ ads ws) U U.heap
def WQ (E : EV) (ws ws' : va_W) (v : Option Value) : Array Value → State → Outcome → State → Prop := fun _ st o t => o = .returned v ∧ va_P E.1 vwCl ws' t.heap ∧ t.heap.size = st.heap.size ∧ ∀ q : Nat, q ∉ ads ws → t.heap[q]? = st.heap[q]?
abbrev rmk (fr mc ms lo : Nat) : Room := { frames := fr, cells := mc, slots := ms, locals := lo }
def Rd (l : Launch) (E : EV) (y : MethodName) (cc : ByteArray) (maxL : Nat) (ret : Option FieldType) (fr lo : Nat) (av : List Value) (ws : va_W) (v : Option Value) : Prop :=
  Met l y (Cond.code y cc maxL ret :: LW) (rmk fr 0 0 lo) (va_Pc av (PB E ws)) (RQ v) 0 0 (fun _ => False)
def Wr (l : Launch) (E : EV) (y : MethodName) (cc : ByteArray) (maxL : Nat) (ret : Option FieldType) (fr lo : Nat) (av : List Value) (ws ws' : va_W) (v : Option Value) : Prop :=
  Met l y (Cond.code y cc maxL ret :: LW) (rmk fr 0 0 lo) (va_Pc av (PW E ws)) (WQ E ws ws' v) 0 0 (fun q => q ∈ ads ws)
theorem PB.blind {E : EV} {ws : va_W} {av : List Value} : FrameBlind (va_Pc av (PB E ws)) := fun a U g mk q => ⟨q.1, q.2.1, q.2.2.same rfl⟩
theorem PW.blind {E : EV} {ws : va_W} {av : List Value} : FrameBlind (va_Pc av (PW E ws)) := fun a U g mk q => ⟨q.1, q.2.1, q.2.2.1, q.2.2.2.same rfl⟩
/-! worlds as lists: parts and changes -/
def mrg : List Nat → va_W → va_W → va_W
  | [], ws, _ => ws
  | _ :: _, ws, [] => ws
  | i :: is, ws, c :: cs => mrg is (ws.set i c) cs
theorem mrg_get : ∀ (is : List Nat) (ws cs : va_W) (k : Nat) (x : Nat × va_E), (mrg is ws cs)[k]? = some x → x ∈ cs ∨ (ws[k]? = some x ∧ (k ∉ is ∨ cs.length < is.length))
  | [], ws, cs, k, x, h => Or.inr ⟨h, Or.inl List.not_mem_nil⟩
  | i :: is, ws, [], k, x, h => Or.inr ⟨h, Or.inr (by simp)⟩
  | i :: is, ws, c :: cs, k, x, h => by
    rcases mrg_get is (ws.set i c) cs k x h with h1 | ⟨h1, h2⟩
    · exact Or.inl (List.mem_cons_of_mem _ h1)
    · by_cases e : k = i
      · subst e
        rcases Nat.lt_or_ge k ws.length with hk | hk
        · rw [List.getElem?_set_self hk] at h1
          cases h1
          exact Or.inl List.mem_cons_self
        · rw [List.getElem?_eq_none (by simpa using hk)] at h1
          cases h1
      · rw [List.getElem?_set_ne (fun q => e q.symm)] at h1
        refine Or.inr ⟨h1, ?_⟩
        rcases h2 with h2 | h2
        · exact Or.inl (fun q => by rcases List.mem_cons.mp q with q | q; exact e q; exact h2 q)
        · exact Or.inr (by simpa using h2)
theorem ads_inj {ws : va_W} (h : (ads ws).Nodup) {i j : Nat} {x y : Nat × va_E} (hi : ws[i]? = some x) (hj : ws[j]? = some y) (e : x.1 = y.1) : i = j := by
  have hi' : (ads ws)[i]? = some x.1 := by simp [ads, hi]
  have hj' : (ads ws)[j]? = some x.1 := by simp [ads, hj, e]
  obtain ⟨li, ei⟩ := List.getElem?_eq_some_iff.mp hi'
  obtain ⟨lj, ej⟩ := List.getElem?_eq_some_iff.mp hj'
  exact (List.getElem_inj h).mp (ei.trans ej.symm)
theorem va_Dof {ws : va_W} (h : (ads ws).Nodup) : va_D (fun _ => True) ws := ⟨fun _ _ _ _ hi hj e => ads_inj h hi hj e, fun _ _ _ => trivial⟩
theorem nodup_of {ws wc : va_W} (hN : (ads ws).Nodup) (is : List Nat) (hC : is.map (fun i => ws[i]?) = wc.map some) (hn : va_nd is = true) : (ads wc).Nodup := by
  have hD := (va_Dof hN).sub is hn hC
  refine List.pairwise_iff_getElem.mpr fun i j hi hj hlt e => ?_
  have hi' : i < wc.length := by simpa [ads] using hi
  have hj' : j < wc.length := by simpa [ads] using hj
  have := hD.1 i j wc[i] wc[j] (List.getElem?_eq_getElem hi') (List.getElem?_eq_getElem hj') (by simpa [ads] using e)
  omega
theorem at_place {ws wc : va_W} {is : List Nat} (hC : is.map (fun i => ws[i]?) = wc.map some) {k : Nat} {x : Nat × va_E} (h : wc[k]? = some x) : ∃ i, is[k]? = some i ∧ ws[i]? = some x := by
  have h1 : (is.map (fun i => ws[i]?))[k]? = some (some x) := by rw [hC, List.getElem?_map, h]; rfl
  rw [List.getElem?_map] at h1
  cases hi : is[k]? with
  | none => rw [hi] at h1; cases h1
  | some i => rw [hi] at h1; exact ⟨i, rfl, Option.some.inj h1⟩
theorem len_place {ws wc : va_W} {is : List Nat} (hC : is.map (fun i => ws[i]?) = wc.map some) : is.length = wc.length := by simpa using congrArg List.length hC
theorem P_sub {D : va_G} {ws wc : va_W} {H : Heap} (hP : va_P D vwCl ws H) (is : List Nat) (hC : is.map (fun i => ws[i]?) = wc.map some) : va_P D vwCl wc H := fun k x h => by
  obtain ⟨i, -, hi⟩ := at_place hC h
  exact hP i x hi
theorem P_mrg {D : va_G} {ws wc wc' : va_W} {H H1 : Heap} (hP : va_P D vwCl ws H) (hN : (ads ws).Nodup) (is : List Nat) (hC : is.map (fun i => ws[i]?) = wc.map some) (hl : wc'.length = wc.length)
    (ho : ∀ q : Nat, q ∉ ads wc → H1[q]? = H[q]?) (hP1 : va_P D vwCl wc' H1) : va_P D vwCl (mrg is ws wc') H1 := by
  intro k x h
  rcases mrg_get is ws wc' k x h with h1 | ⟨h1, h2⟩
  · obtain ⟨j, hj⟩ := List.getElem?_of_mem h1
    exact hP1 j x hj
  · have h2 : k ∉ is := by
      rcases h2 with h2 | h2
      · exact h2
      · have := len_place hC; omega
    refine (hP k x h1).kept (ho _ fun hm => h2 ?_)
    obtain ⟨z, hz, e⟩ := List.mem_map.mp hm
    obtain ⟨j, hj⟩ := List.getElem?_of_mem hz
    obtain ⟨i, hi, hw⟩ := at_place hC hj
    have := ads_inj hN h1 hw e.symm
    rw [this]
    exact List.mem_of_getElem? hi
theorem sub_ads {ws wc : va_W} {is : List Nat} (hC : is.map (fun i => ws[i]?) = wc.map some) : ∀ q, q ∈ ads wc → q ∈ ads ws := by
  intro q hq
  obtain ⟨z, hz, rfl⟩ := List.mem_map.mp hq
  obtain ⟨j, hj⟩ := List.getElem?_of_mem hz
  obtain ⟨i, -, hw⟩ := at_place hC hj
  exact List.mem_map.mpr ⟨z, List.mem_of_getElem? hw, rfl⟩
theorem P_set {D : va_G} {ws : va_W} {H H1 : Heap} {q0 a : Nat} {e0 e1 : va_E} (hP : va_P D vwCl ws H) (hN : (ads ws).Nodup) (he : ws[q0]? = some (a, e0)) (h1 : va_at D vwCl (a, e1) H1) (ho : ∀ q : Nat, q ≠ a → H1[q]? = H[q]?) : va_P D vwCl (ws.set q0 (a, e1)) H1 := hP.set (va_Dof hN) he h1 ho
end
section
def bI (P : Prop) [Decidable P] : Int32 := if P then 1 else 0
theorem bI_t {P : Prop} [Decidable P] (h : P) : bI P = 1 := if_pos h
theorem bI_f {P : Prop} [Decidable P] (h : ¬ P) : bI P = 0 := if_neg h
theorem bI_0 {P : Prop} [Decidable P] (h : bI P = 0) : ¬ P := fun q => by rw [bI_t q] at h; exact absurd h (by decide)
theorem bI_1 {P : Prop} [Decidable P] (h : ¬ bI P = 0) : P := Decidable.byContradiction fun q => h (bI_f q)
theorem nb_bI (P : Prop) [Decidable P] : narrow .boolean (.int (bI P)) = .int (bI P) := by
  by_cases h : P
  · rw [bI_t h]; rfl
  · rw [bI_f h]; rfl
theorem bI_c {P Q : Prop} [Decidable P] [Decidable Q] (h : P ↔ Q) : bI P = bI Q := by
  by_cases q : Q
  · rw [bI_t q, bI_t (h.mpr q)]
  · rw [bI_f q, bI_f (fun z => q (h.mp z))]
section VV
variable {p : Program} {l : Launch} {e : Env} {R : Room} {s : State} {m : MethodId} {args : Array Value} {below : List Frame} {meth : Method} {c : Code} {E : EV} {AD : List Nat} {Q : State → Prop} {ws : va_W}
variable {cc : ByteArray} {nL : Nat} {own : String} {pc : Nat} {ls : Array Slot} {st : List Value} {g g1 g2 : JFrame}
def V (p : Program) (l : Launch) (e : Env) (R : Room) (s : State) (m : MethodId) (args : Array Value) (below : List Frame) (meth : Method) (c : Code) (E : EV) (AD : List Nat) (Q : State → Prop) (ws : va_W) (g : JFrame) : Prop :=
  ∀ (H : Heap) (locs : List Loc), va_P E.1 vwCl ws H → H.size = s.heap.size → (∀ q : Nat, q ∉ AD → H[q]? = s.heap[q]?) → (∀ z ∈ locs, z.base ∈ AD) → W p l e R s m args below meth c H locs 0 0 Q g
theorem V.go (h : ∀ H locs, W p l e R s m args below meth c H locs 0 0 Q g2 → W p l e R s m args below meth c H locs 0 0 Q g) (k : V p l e R s m args below meth c E AD Q ws g2) : V p l e R s m args below meth c E AD Q ws g := fun H locs a b d f => h H locs (k H locs a b d f)
theorem V.eq (h : g = g2) (k : V p l e R s m args below meth c E AD Q ws g2) : V p l e R s m args below meth c E AD Q ws g := h ▸ k
theorem V.world {ws' : va_W} (h : ∀ H, va_P E.1 vwCl ws H → va_P E.1 vwCl ws' H) (k : V p l e R s m args below meth c E AD Q ws' g) : V p l e R s m args below meth c E AD Q ws g := fun H locs a b d f => k H locs (h H a) b d f
theorem V.topi {x : Int32} (k : ∀ z : Int32, z = x → V p l e R s m args below meth c E AD Q ws (F0 m pc ls (.int z :: st))) : V p l e R s m args below meth c E AD Q ws (F0 m pc ls (.int x :: st)) := k x rfl
theorem V.topl {x : Int64} (k : ∀ z : Int64, z = x → V p l e R s m args below meth c E AD Q ws (F0 m pc ls (.long z :: st))) : V p l e R s m args below meth c E AD Q ws (F0 m pc ls (.long x :: st)) := k x rfl
theorem V.topd {x : UInt64} (k : ∀ z : UInt64, z = x → V p l e R s m args below meth c E AD Q ws (F0 m pc ls (.double z :: st))) : V p l e R s m args below meth c E AD Q ws (F0 m pc ls (.double x :: st)) := k x rfl

theorem V.iconst (F : CallFix p m c cc nL s args LW own) {n : Int} {v : Int32} (hd : decode cc pc = .ok (.iconst n, 1)) (hv : Int32.ofInt n = v) (k : V p l e R s m args below meth c E AD Q ws (F0 m (pc + 1) ls (.int v :: st))) : V p l e R s m args below meth c E AD Q ws (F0 m pc ls (st)) := V.go (fun _ _ k => lv_iconst F.1 F.2.1 hd hv k) k
theorem V.bipush (F : CallFix p m c cc nL s args LW own) {n : Int} {v : Int32} (hd : decode cc pc = .ok (.bipush n, 2)) (hv : (Int8.ofInt n).toInt32 = v) (k : V p l e R s m args below meth c E AD Q ws (F0 m (pc + 2) ls (.int v :: st))) : V p l e R s m args below meth c E AD Q ws (F0 m pc ls (st)) := V.go (fun _ _ k => lv_bipush F.1 F.2.1 hd hv k) k
theorem V.sipush (F : CallFix p m c cc nL s args LW own) {n : Int} {v : Int32} (hd : decode cc pc = .ok (.sipush n, 3)) (hv : (Int16.ofInt n).toInt32 = v) (k : V p l e R s m args below meth c E AD Q ws (F0 m (pc + 3) ls (.int v :: st))) : V p l e R s m args below meth c E AD Q ws (F0 m pc ls (st)) := V.go (fun _ _ k => lv_sipush F.1 F.2.1 hd hv k) k
theorem V.lconst (F : CallFix p m c cc nL s args LW own) {n : Fin 2} {v : Int64} (hd : decode cc pc = .ok (.lconst n, 1)) (hv : Int64.ofNat (n : Nat) = v) (k : V p l e R s m args below meth c E AD Q ws (F0 m (pc + 1) ls (.long v :: st))) : V p l e R s m args below meth c E AD Q ws (F0 m pc ls (st)) := V.go (fun _ _ k => lv_lconst F.1 F.2.1 hd hv k) k
theorem V.ldc2 (F : CallFix p m c cc nL s args LW own) {i : Nat} {v : Int64} (hc : (Cond.constantLong own i v) ∈ LW) (hd : decode cc pc = .ok (.ldc2_w i, 3)) (k : V p l e R s m args below meth c E AD Q ws (F0 m (pc + 3) ls (.long v :: st))) : V p l e R s m args below meth c E AD Q ws (F0 m pc ls (st)) := V.go (fun _ _ k => lv_ldc2 F.1 F.2.1 F.2.2.2.1 (F.2.2.2.2 _ hc) hd k) k
theorem V.ldc2d (F : CallFix p m c cc nL s args LW own) {i : Nat} {v : UInt64} (hc : (Cond.constantDouble own i v) ∈ LW) (hd : decode cc pc = .ok (.ldc2_w i, 3)) (k : V p l e R s m args below meth c E AD Q ws (F0 m (pc + 3) ls (.double v :: st))) : V p l e R s m args below meth c E AD Q ws (F0 m pc ls (st)) := V.go (fun _ _ k => lv_ldc2d F.1 F.2.1 F.2.2.2.1 (F.2.2.2.2 _ hc) hd k) k
theorem V.iload_n (F : CallFix p m c cc nL s args LW own) {k0 : Fin 4} {i : Nat} {x : Int32} (hd : decode cc pc = .ok (.iload_n k0, 1)) (hi : (k0 : Nat) = i) (hl : ls[i]? = some (.val (.int x))) (k : V p l e R s m args below meth c E AD Q ws (F0 m (pc + 1) ls (.int x :: st))) : V p l e R s m args below meth c E AD Q ws (F0 m pc ls (st)) := V.go (fun _ _ k => lv_iload_n F.1 F.2.1 hd hi hl k) k
theorem V.iload (F : CallFix p m c cc nL s args LW own) {i : Nat} {x : Int32} (hd : decode cc pc = .ok (.iload i, 2)) (hl : ls[i]? = some (.val (.int x))) (k : V p l e R s m args below meth c E AD Q ws (F0 m (pc + 2) ls (.int x :: st))) : V p l e R s m args below meth c E AD Q ws (F0 m pc ls (st)) := V.go (fun _ _ k => lv_iload F.1 F.2.1 hd hl k) k
theorem V.istore_n (F : CallFix p m c cc nL s args LW own) {k0 : Fin 4} {i : Nat} {x : Int32} {lv lv' : List (Nat × Value)} (hd : decode cc pc = .ok (.istore_n k0, 1)) (hi : (k0 : Nat) = i) (h : lv_has ls nL lv) (hn : i < nL) (hl : (i, Value.int x) :: lv.filter (fun q => !(q.1 == i) && !(q.1 + 1 == i && q.2.category == 2)) = lv') (k : ∀ ls' : Array Slot, lv_has ls' nL lv' → V p l e R s m args below meth c E AD Q ws (F0 m (pc + 1) ls' st)) : V p l e R s m args below meth c E AD Q ws (F0 m pc ls (.int x :: st)) := fun H locs a b d f => lv_istore_n F.1 F.2.1 hd hi h hn hl (fun ls' h' => k ls' h' H locs a b d f)
theorem V.istore (F : CallFix p m c cc nL s args LW own) {i : Nat} {x : Int32} {lv lv' : List (Nat × Value)} (hd : decode cc pc = .ok (.istore i, 2)) (h : lv_has ls nL lv) (hn : i < nL) (hl : (i, Value.int x) :: lv.filter (fun q => !(q.1 == i) && !(q.1 + 1 == i && q.2.category == 2)) = lv') (k : ∀ ls' : Array Slot, lv_has ls' nL lv' → V p l e R s m args below meth c E AD Q ws (F0 m (pc + 2) ls' st)) : V p l e R s m args below meth c E AD Q ws (F0 m pc ls (.int x :: st)) := fun H locs a b d f => lv_istore F.1 F.2.1 hd h hn hl (fun ls' h' => k ls' h' H locs a b d f)
theorem V.lload_n (F : CallFix p m c cc nL s args LW own) {k0 : Fin 4} {i : Nat} {x : Int64} (hd : decode cc pc = .ok (.lload_n k0, 1)) (hi : (k0 : Nat) = i) (hl : ls[i]? = some (.val (.long x))) (k : V p l e R s m args below meth c E AD Q ws (F0 m (pc + 1) ls (.long x :: st))) : V p l e R s m args below meth c E AD Q ws (F0 m pc ls (st)) := V.go (fun _ _ k => lv_lload_n F.1 F.2.1 hd hi hl k) k
theorem V.lload (F : CallFix p m c cc nL s args LW own) {i : Nat} {x : Int64} (hd : decode cc pc = .ok (.lload i, 2)) (hl : ls[i]? = some (.val (.long x))) (k : V p l e R s m args below meth c E AD Q ws (F0 m (pc + 2) ls (.long x :: st))) : V p l e R s m args below meth c E AD Q ws (F0 m pc ls (st)) := V.go (fun _ _ k => lv_lload F.1 F.2.1 hd hl k) k
theorem V.lstore_n (F : CallFix p m c cc nL s args LW own) {k0 : Fin 4} {i : Nat} {x : Int64} {lv lv' : List (Nat × Value)} (hd : decode cc pc = .ok (.lstore_n k0, 1)) (hi : (k0 : Nat) = i) (h : lv_has ls nL lv) (hn : i + 1 < nL) (hl : (i, Value.long x) :: lv.filter (fun q => !(q.1 == i) && (!(q.1 == i + 1) && !(q.1 + 1 == i && q.2.category == 2))) = lv') (k : ∀ ls' : Array Slot, lv_has ls' nL lv' → V p l e R s m args below meth c E AD Q ws (F0 m (pc + 1) ls' st)) : V p l e R s m args below meth c E AD Q ws (F0 m pc ls (.long x :: st)) := fun H locs a b d f => lv_lstore_n F.1 F.2.1 hd hi h hn hl (fun ls' h' => k ls' h' H locs a b d f)
theorem V.lstore (F : CallFix p m c cc nL s args LW own) {i : Nat} {x : Int64} {lv lv' : List (Nat × Value)} (hd : decode cc pc = .ok (.lstore i, 2)) (h : lv_has ls nL lv) (hn : i + 1 < nL) (hl : (i, Value.long x) :: lv.filter (fun q => !(q.1 == i) && (!(q.1 == i + 1) && !(q.1 + 1 == i && q.2.category == 2))) = lv') (k : ∀ ls' : Array Slot, lv_has ls' nL lv' → V p l e R s m args below meth c E AD Q ws (F0 m (pc + 2) ls' st)) : V p l e R s m args below meth c E AD Q ws (F0 m pc ls (.long x :: st)) := fun H locs a b d f => lv_lstore F.1 F.2.1 hd h hn hl (fun ls' h' => k ls' h' H locs a b d f)
theorem V.aload_n (F : CallFix p m c cc nL s args LW own) {k0 : Fin 4} {i : Nat} {x : Nat} (hd : decode cc pc = .ok (.aload_n k0, 1)) (hi : (k0 : Nat) = i) (hl : ls[i]? = some (.val (.ref x))) (k : V p l e R s m args below meth c E AD Q ws (F0 m (pc + 1) ls (.ref x :: st))) : V p l e R s m args below meth c E AD Q ws (F0 m pc ls (st)) := V.go (fun _ _ k => lv_aload_n F.1 F.2.1 hd hi hl k) k
theorem V.aload (F : CallFix p m c cc nL s args LW own) {i : Nat} {x : Nat} (hd : decode cc pc = .ok (.aload i, 2)) (hl : ls[i]? = some (.val (.ref x))) (k : V p l e R s m args below meth c E AD Q ws (F0 m (pc + 2) ls (.ref x :: st))) : V p l e R s m args below meth c E AD Q ws (F0 m pc ls (st)) := V.go (fun _ _ k => lv_aload F.1 F.2.1 hd hl k) k
theorem V.astore_n (F : CallFix p m c cc nL s args LW own) {k0 : Fin 4} {i : Nat} {x : Nat} {lv lv' : List (Nat × Value)} (hd : decode cc pc = .ok (.astore_n k0, 1)) (hi : (k0 : Nat) = i) (h : lv_has ls nL lv) (hn : i < nL) (hl : (i, Value.ref x) :: lv.filter (fun q => !(q.1 == i) && !(q.1 + 1 == i && q.2.category == 2)) = lv') (k : ∀ ls' : Array Slot, lv_has ls' nL lv' → V p l e R s m args below meth c E AD Q ws (F0 m (pc + 1) ls' st)) : V p l e R s m args below meth c E AD Q ws (F0 m pc ls (.ref x :: st)) := fun H locs a b d f => lv_astore_n F.1 F.2.1 hd hi h hn hl (fun ls' h' => k ls' h' H locs a b d f)
theorem V.astore (F : CallFix p m c cc nL s args LW own) {i : Nat} {x : Nat} {lv lv' : List (Nat × Value)} (hd : decode cc pc = .ok (.astore i, 2)) (h : lv_has ls nL lv) (hn : i < nL) (hl : (i, Value.ref x) :: lv.filter (fun q => !(q.1 == i) && !(q.1 + 1 == i && q.2.category == 2)) = lv') (k : ∀ ls' : Array Slot, lv_has ls' nL lv' → V p l e R s m args below meth c E AD Q ws (F0 m (pc + 2) ls' st)) : V p l e R s m args below meth c E AD Q ws (F0 m pc ls (.ref x :: st)) := fun H locs a b d f => lv_astore F.1 F.2.1 hd h hn hl (fun ls' h' => k ls' h' H locs a b d f)
theorem V.dload_n (F : CallFix p m c cc nL s args LW own) {k0 : Fin 4} {i : Nat} {x : UInt64} (hd : decode cc pc = .ok (.dload_n k0, 1)) (hi : (k0 : Nat) = i) (hl : ls[i]? = some (.val (.double x))) (k : V p l e R s m args below meth c E AD Q ws (F0 m (pc + 1) ls (.double x :: st))) : V p l e R s m args below meth c E AD Q ws (F0 m pc ls (st)) := V.go (fun _ _ k => lv_dload_n F.1 F.2.1 hd hi hl k) k
theorem V.dload (F : CallFix p m c cc nL s args LW own) {i : Nat} {x : UInt64} (hd : decode cc pc = .ok (.dload i, 2)) (hl : ls[i]? = some (.val (.double x))) (k : V p l e R s m args below meth c E AD Q ws (F0 m (pc + 2) ls (.double x :: st))) : V p l e R s m args below meth c E AD Q ws (F0 m pc ls (st)) := V.go (fun _ _ k => lv_dload F.1 F.2.1 hd hl k) k
theorem V.dstore_n (F : CallFix p m c cc nL s args LW own) {k0 : Fin 4} {i : Nat} {x : UInt64} {lv lv' : List (Nat × Value)} (hd : decode cc pc = .ok (.dstore_n k0, 1)) (hi : (k0 : Nat) = i) (h : lv_has ls nL lv) (hn : i + 1 < nL) (hl : (i, Value.double x) :: lv.filter (fun q => !(q.1 == i) && (!(q.1 == i + 1) && !(q.1 + 1 == i && q.2.category == 2))) = lv') (k : ∀ ls' : Array Slot, lv_has ls' nL lv' → V p l e R s m args below meth c E AD Q ws (F0 m (pc + 1) ls' st)) : V p l e R s m args below meth c E AD Q ws (F0 m pc ls (.double x :: st)) := fun H locs a b d f => lv_dstore_n F.1 F.2.1 hd hi h hn hl (fun ls' h' => k ls' h' H locs a b d f)
theorem V.dstore (F : CallFix p m c cc nL s args LW own) {i : Nat} {x : UInt64} {lv lv' : List (Nat × Value)} (hd : decode cc pc = .ok (.dstore i, 2)) (h : lv_has ls nL lv) (hn : i + 1 < nL) (hl : (i, Value.double x) :: lv.filter (fun q => !(q.1 == i) && (!(q.1 == i + 1) && !(q.1 + 1 == i && q.2.category == 2))) = lv') (k : ∀ ls' : Array Slot, lv_has ls' nL lv' → V p l e R s m args below meth c E AD Q ws (F0 m (pc + 2) ls' st)) : V p l e R s m args below meth c E AD Q ws (F0 m pc ls (.double x :: st)) := fun H locs a b d f => lv_dstore F.1 F.2.1 hd h hn hl (fun ls' h' => k ls' h' H locs a b d f)
theorem V.iinc (F : CallFix p m c cc nL s args LW own) {i j : Nat} {n : Int} {x : Int32} {lv : List (Nat × Value)} {lv' : Int32 → List (Nat × Value)} (hd : decode cc pc = .ok (.iinc i n, 3)) (h : lv_has ls nL lv) (hk : lv[j]? = some (i, .int x)) (hn : i < nL) (hl : ∀ v, (i, Value.int v) :: lv.filter (fun q => !(q.1 == i) && !(q.1 + 1 == i && q.2.category == 2)) = lv' v) (k : ∀ v : Int32, v = x + Int32.ofInt n → ∀ ls' : Array Slot, lv_has ls' nL (lv' v) → V p l e R s m args below meth c E AD Q ws (F0 m (pc + 3) ls' st)) : V p l e R s m args below meth c E AD Q ws (F0 m pc ls (st)) := fun H locs a b d f => lv_iinc (v := x + Int32.ofInt n) F.1 F.2.1 hd h hk rfl hn (hl _) (fun ls' h' => k _ rfl ls' h' H locs a b d f)
theorem V.iadd (F : CallFix p m c cc nL s args LW own) {x y : Int32} (hd : decode cc pc = .ok (.iadd, 1)) (k : ∀ z : Int32, z = x + y → V p l e R s m args below meth c E AD Q ws (F0 m (pc + 1) ls (.int z :: st))) : V p l e R s m args below meth c E AD Q ws (F0 m pc ls (.int y :: .int x :: st)) := V.go (fun _ _ k => lv_iadd F.1 F.2.1 hd k) (k _ rfl)
theorem V.isub (F : CallFix p m c cc nL s args LW own) {x y : Int32} (hd : decode cc pc = .ok (.isub, 1)) (k : ∀ z : Int32, z = x - y → V p l e R s m args below meth c E AD Q ws (F0 m (pc + 1) ls (.int z :: st))) : V p l e R s m args below meth c E AD Q ws (F0 m pc ls (.int y :: .int x :: st)) := V.go (fun _ _ k => lv_isub F.1 F.2.1 hd k) (k _ rfl)
theorem V.imul (F : CallFix p m c cc nL s args LW own) {x y : Int32} (hd : decode cc pc = .ok (.imul, 1)) (k : ∀ z : Int32, z = x * y → V p l e R s m args below meth c E AD Q ws (F0 m (pc + 1) ls (.int z :: st))) : V p l e R s m args below meth c E AD Q ws (F0 m pc ls (.int y :: .int x :: st)) := V.go (fun _ _ k => lv_imul F.1 F.2.1 hd k) (k _ rfl)
theorem V.iand (F : CallFix p m c cc nL s args LW own) {x y : Int32} (hd : decode cc pc = .ok (.iand, 1)) (k : ∀ z : Int32, z = x &&& y → V p l e R s m args below meth c E AD Q ws (F0 m (pc + 1) ls (.int z :: st))) : V p l e R s m args below meth c E AD Q ws (F0 m pc ls (.int y :: .int x :: st)) := V.go (fun _ _ k => lv_iand F.1 F.2.1 hd k) (k _ rfl)
theorem V.ior (F : CallFix p m c cc nL s args LW own) {x y : Int32} (hd : decode cc pc = .ok (.ior, 1)) (k : ∀ z : Int32, z = x ||| y → V p l e R s m args below meth c E AD Q ws (F0 m (pc + 1) ls (.int z :: st))) : V p l e R s m args below meth c E AD Q ws (F0 m pc ls (.int y :: .int x :: st)) := V.go (fun _ _ k => lv_ior F.1 F.2.1 hd k) (k _ rfl)
theorem V.ishl (F : CallFix p m c cc nL s args LW own) {x y : Int32} (hd : decode cc pc = .ok (.ishl, 1)) (k : ∀ z : Int32, z = x <<< (y &&& 31) → V p l e R s m args below meth c E AD Q ws (F0 m (pc + 1) ls (.int z :: st))) : V p l e R s m args below meth c E AD Q ws (F0 m pc ls (.int y :: .int x :: st)) := V.go (fun _ _ k => lv_ishl F.1 F.2.1 hd k) (k _ rfl)
theorem V.idiv (F : CallFix p m c cc nL s args LW own) {x y : Int32} (hd : decode cc pc = .ok (.idiv, 1)) (hne : ¬ y = 0) (k : ∀ z : Int32, z = x / y → V p l e R s m args below meth c E AD Q ws (F0 m (pc + 1) ls (.int z :: st))) : V p l e R s m args below meth c E AD Q ws (F0 m pc ls (.int y :: .int x :: st)) := V.go (fun _ _ k => lv_idiv F.1 F.2.1 hd hne k) (k _ rfl)
theorem V.ineg (F : CallFix p m c cc nL s args LW own) {x : Int32} (hd : decode cc pc = .ok (.ineg, 1)) (k : ∀ z : Int32, z = -x → V p l e R s m args below meth c E AD Q ws (F0 m (pc + 1) ls (.int z :: st))) : V p l e R s m args below meth c E AD Q ws (F0 m pc ls (.int x :: st)) := V.go (fun _ _ k => lv_ineg F.1 F.2.1 hd k) (k _ rfl)
theorem V.ladd (F : CallFix p m c cc nL s args LW own) {x y : Int64} (hd : decode cc pc = .ok (.ladd, 1)) (k : ∀ z : Int64, z = x + y → V p l e R s m args below meth c E AD Q ws (F0 m (pc + 1) ls (.long z :: st))) : V p l e R s m args below meth c E AD Q ws (F0 m pc ls (.long y :: .long x :: st)) := V.go (fun _ _ k => lv_ladd F.1 F.2.1 hd k) (k _ rfl)
theorem V.lsub (F : CallFix p m c cc nL s args LW own) {x y : Int64} (hd : decode cc pc = .ok (.lsub, 1)) (k : ∀ z : Int64, z = x - y → V p l e R s m args below meth c E AD Q ws (F0 m (pc + 1) ls (.long z :: st))) : V p l e R s m args below meth c E AD Q ws (F0 m pc ls (.long y :: .long x :: st)) := V.go (fun _ _ k => lv_lsub F.1 F.2.1 hd k) (k _ rfl)
theorem V.lmul (F : CallFix p m c cc nL s args LW own) {x y : Int64} (hd : decode cc pc = .ok (.lmul, 1)) (k : ∀ z : Int64, z = x * y → V p l e R s m args below meth c E AD Q ws (F0 m (pc + 1) ls (.long z :: st))) : V p l e R s m args below meth c E AD Q ws (F0 m pc ls (.long y :: .long x :: st)) := V.go (fun _ _ k => lv_lmul F.1 F.2.1 hd k) (k _ rfl)
theorem V.lshl (F : CallFix p m c cc nL s args LW own) {x : Int64} {y : Int32} (hd : decode cc pc = .ok (.lshl, 1)) (k : ∀ z : Int64, z = x <<< (y.toInt64 &&& 63) → V p l e R s m args below meth c E AD Q ws (F0 m (pc + 1) ls (.long z :: st))) : V p l e R s m args below meth c E AD Q ws (F0 m pc ls (.int y :: .long x :: st)) := V.go (fun _ _ k => lv_lshl F.1 F.2.1 hd rfl k) (k _ rfl)
theorem V.i2l (F : CallFix p m c cc nL s args LW own) {x : Int32} (hd : decode cc pc = .ok (.i2l, 1)) (k : ∀ z : Int64, z = x.toInt64 → V p l e R s m args below meth c E AD Q ws (F0 m (pc + 1) ls (.long z :: st))) : V p l e R s m args below meth c E AD Q ws (F0 m pc ls (.int x :: st)) := V.go (fun _ _ k => lv_i2l F.1 F.2.1 hd rfl k) (k _ rfl)
theorem V.i2d (F : CallFix p m c cc nL s args LW own) {x : Int32} (hd : decode cc pc = .ok (.i2d, 1)) (k : ∀ z : UInt64, z = FP.i2d x → V p l e R s m args below meth c E AD Q ws (F0 m (pc + 1) ls (.double z :: st))) : V p l e R s m args below meth c E AD Q ws (F0 m pc ls (.int x :: st)) := V.go (fun _ _ k => lv_i2d F.1 F.2.1 hd k) (k _ rfl)
theorem V.d2l (F : CallFix p m c cc nL s args LW own) {x : UInt64} (hd : decode cc pc = .ok (.d2l, 1)) (k : ∀ z : Int64, z = FP.d2l x → V p l e R s m args below meth c E AD Q ws (F0 m (pc + 1) ls (.long z :: st))) : V p l e R s m args below meth c E AD Q ws (F0 m pc ls (.double x :: st)) := V.go (fun _ _ k => lv_d2l F.1 F.2.1 hd k) (k _ rfl)
theorem V.ddiv (F : CallFix p m c cc nL s args LW own) {x y : UInt64} (hd : decode cc pc = .ok (.ddiv, 1)) (hne : vf_n64 (FP.ddiv x y)) (k : ∀ z : UInt64, z = FP.ddiv x y → V p l e R s m args below meth c E AD Q ws (F0 m (pc + 1) ls (.double z :: st))) : V p l e R s m args below meth c E AD Q ws (F0 m pc ls (.double y :: .double x :: st)) := V.go (fun _ _ k => lv_ddiv F.1 F.2.1 hd hne k) (k _ rfl)
theorem V.dmul (F : CallFix p m c cc nL s args LW own) {x y : UInt64} (hd : decode cc pc = .ok (.dmul, 1)) (hne : vf_n64 (FP.dmul x y)) (k : ∀ z : UInt64, z = FP.dmul x y → V p l e R s m args below meth c E AD Q ws (F0 m (pc + 1) ls (.double z :: st))) : V p l e R s m args below meth c E AD Q ws (F0 m pc ls (.double y :: .double x :: st)) := V.go (fun _ _ k => lv_dmul F.1 F.2.1 hd hne k) (k _ rfl)
theorem V.dsub (F : CallFix p m c cc nL s args LW own) {x y : UInt64} (hd : decode cc pc = .ok (.dsub, 1)) (hne : vf_n64 (FP.dsub x y)) (k : ∀ z : UInt64, z = FP.dsub x y → V p l e R s m args below meth c E AD Q ws (F0 m (pc + 1) ls (.double z :: st))) : V p l e R s m args below meth c E AD Q ws (F0 m pc ls (.double y :: .double x :: st)) := V.go (fun _ _ k => lv_dsub F.1 F.2.1 hd hne k) (k _ rfl)
theorem V.dcmp (F : CallFix p m c cc nL s args LW own) {x y : UInt64} {op : CmpOp} (hd : decode cc pc = .ok (.dcmp op, 1)) (k : ∀ z : Int32, z = Op.cmpValue (FP.dcmp x y) op → V p l e R s m args below meth c E AD Q ws (F0 m (pc + 1) ls (.int z :: st))) : V p l e R s m args below meth c E AD Q ws (F0 m pc ls (.double y :: .double x :: st)) := V.go (fun _ _ k => lv_dcmp F.1 F.2.1 hd k) (k _ rfl)
theorem V.dup (F : CallFix p m c cc nL s args LW own) {va : Value} (hd : decode cc pc = .ok (.dup, 1)) (hva : va.category = 1) (k : V p l e R s m args below meth c E AD Q ws (F0 m (pc + 1) ls (va :: va :: st))) : V p l e R s m args below meth c E AD Q ws (F0 m pc ls (va :: st)) := V.go (fun _ _ k => lv_dup F.1 F.2.1 hd hva k) k
theorem V.pop (F : CallFix p m c cc nL s args LW own) {va : Value} (hd : decode cc pc = .ok (.pop, 1)) (hva : va.category = 1) (k : V p l e R s m args below meth c E AD Q ws (F0 m (pc + 1) ls st)) : V p l e R s m args below meth c E AD Q ws (F0 m pc ls (va :: st)) := V.go (fun _ _ k => lv_pop F.1 F.2.1 hd hva k) k
theorem V.dup2 (F : CallFix p m c cc nL s args LW own) {va vb : Value} (hd : decode cc pc = .ok (.dup2, 1)) (hva : va.category = 1) (hvb : vb.category = 1) (k : V p l e R s m args below meth c E AD Q ws (F0 m (pc + 1) ls (va :: vb :: va :: vb :: st))) : V p l e R s m args below meth c E AD Q ws (F0 m pc ls (va :: vb :: st)) := V.go (fun _ _ k => lv_dup2_11 F.1 F.2.1 hd hva hvb k) k
theorem V.goto (F : CallFix p m c cc nL s args LW own) {off : Int} {tgt : Nat} (hd : decode cc pc = .ok (.goto off, 3)) (ht : (pc : Int) + off = (tgt : Int)) (k : V p l e R s m args below meth c E AD Q ws (F0 m tgt ls st)) : V p l e R s m args below meth c E AD Q ws (F0 m pc ls (st)) := V.go (fun _ _ k => lv_goto F.1 F.2.1 hd ht k) k
theorem V.icmp_lt (F : CallFix p m c cc nL s args LW own) {x y : Int32} {off : Int} {tgt : Nat} (hd : decode cc pc = .ok (.if_icmp .lt off, 3)) (ht : (pc : Int) + off = (tgt : Int)) (kt : x < y → ¬ y ≤ x → V p l e R s m args below meth c E AD Q ws (F0 m tgt ls st)) (kf : ¬ x < y → y ≤ x → V p l e R s m args below meth c E AD Q ws (F0 m (pc + 3) ls st)) : V p l e R s m args below meth c E AD Q ws (F0 m pc ls (.int y :: .int x :: st)) := fun H locs a b d f => lv_icmp_lt F.1 F.2.1 hd ht (fun h => kt h (Int32.not_le.mpr h) H locs a b d f) (fun h => kf h (Int32.not_lt.mp h) H locs a b d f)
theorem V.if_lt (F : CallFix p m c cc nL s args LW own) {x : Int32} {off : Int} {tgt : Nat} (hd : decode cc pc = .ok (.ifCond .lt off, 3)) (ht : (pc : Int) + off = (tgt : Int)) (kt : x < 0 → ¬ 0 ≤ x → V p l e R s m args below meth c E AD Q ws (F0 m tgt ls st)) (kf : ¬ x < 0 → 0 ≤ x → V p l e R s m args below meth c E AD Q ws (F0 m (pc + 3) ls st)) : V p l e R s m args below meth c E AD Q ws (F0 m pc ls (.int x :: st)) := fun H locs a b d f => lv_if_lt F.1 F.2.1 hd ht (fun h => kt h (Int32.not_le.mpr h) H locs a b d f) (fun h => kf h (Int32.not_lt.mp h) H locs a b d f)
theorem V.icmp_ge (F : CallFix p m c cc nL s args LW own) {x y : Int32} {off : Int} {tgt : Nat} (hd : decode cc pc = .ok (.if_icmp .ge off, 3)) (ht : (pc : Int) + off = (tgt : Int)) (kt : y ≤ x → ¬ x < y → V p l e R s m args below meth c E AD Q ws (F0 m tgt ls st)) (kf : ¬ y ≤ x → x < y → V p l e R s m args below meth c E AD Q ws (F0 m (pc + 3) ls st)) : V p l e R s m args below meth c E AD Q ws (F0 m pc ls (.int y :: .int x :: st)) := fun H locs a b d f => lv_icmp_ge F.1 F.2.1 hd ht (fun h => kt h (Int32.not_lt.mpr h) H locs a b d f) (fun h => kf h (Int32.not_le.mp h) H locs a b d f)
theorem V.if_ge (F : CallFix p m c cc nL s args LW own) {x : Int32} {off : Int} {tgt : Nat} (hd : decode cc pc = .ok (.ifCond .ge off, 3)) (ht : (pc : Int) + off = (tgt : Int)) (kt : 0 ≤ x → ¬ x < 0 → V p l e R s m args below meth c E AD Q ws (F0 m tgt ls st)) (kf : ¬ 0 ≤ x → x < 0 → V p l e R s m args below meth c E AD Q ws (F0 m (pc + 3) ls st)) : V p l e R s m args below meth c E AD Q ws (F0 m pc ls (.int x :: st)) := fun H locs a b d f => lv_if_ge F.1 F.2.1 hd ht (fun h => kt h (Int32.not_lt.mpr h) H locs a b d f) (fun h => kf h (Int32.not_le.mp h) H locs a b d f)
theorem V.icmp_gt (F : CallFix p m c cc nL s args LW own) {x y : Int32} {off : Int} {tgt : Nat} (hd : decode cc pc = .ok (.if_icmp .gt off, 3)) (ht : (pc : Int) + off = (tgt : Int)) (kt : y < x → ¬ x ≤ y → V p l e R s m args below meth c E AD Q ws (F0 m tgt ls st)) (kf : ¬ y < x → x ≤ y → V p l e R s m args below meth c E AD Q ws (F0 m (pc + 3) ls st)) : V p l e R s m args below meth c E AD Q ws (F0 m pc ls (.int y :: .int x :: st)) := fun H locs a b d f => lv_icmp_gt F.1 F.2.1 hd ht (fun h => kt h (Int32.not_le.mpr h) H locs a b d f) (fun h => kf h (Int32.not_lt.mp h) H locs a b d f)
theorem V.if_gt (F : CallFix p m c cc nL s args LW own) {x : Int32} {off : Int} {tgt : Nat} (hd : decode cc pc = .ok (.ifCond .gt off, 3)) (ht : (pc : Int) + off = (tgt : Int)) (kt : 0 < x → ¬ x ≤ 0 → V p l e R s m args below meth c E AD Q ws (F0 m tgt ls st)) (kf : ¬ 0 < x → x ≤ 0 → V p l e R s m args below meth c E AD Q ws (F0 m (pc + 3) ls st)) : V p l e R s m args below meth c E AD Q ws (F0 m pc ls (.int x :: st)) := fun H locs a b d f => lv_if_gt F.1 F.2.1 hd ht (fun h => kt h (Int32.not_le.mpr h) H locs a b d f) (fun h => kf h (Int32.not_lt.mp h) H locs a b d f)
theorem V.icmp_le (F : CallFix p m c cc nL s args LW own) {x y : Int32} {off : Int} {tgt : Nat} (hd : decode cc pc = .ok (.if_icmp .le off, 3)) (ht : (pc : Int) + off = (tgt : Int)) (kt : x ≤ y → ¬ y < x → V p l e R s m args below meth c E AD Q ws (F0 m tgt ls st)) (kf : ¬ x ≤ y → y < x → V p l e R s m args below meth c E AD Q ws (F0 m (pc + 3) ls st)) : V p l e R s m args below meth c E AD Q ws (F0 m pc ls (.int y :: .int x :: st)) := fun H locs a b d f => lv_icmp_le F.1 F.2.1 hd ht (fun h => kt h (Int32.not_lt.mpr h) H locs a b d f) (fun h => kf h (Int32.not_le.mp h) H locs a b d f)
theorem V.if_le (F : CallFix p m c cc nL s args LW own) {x : Int32} {off : Int} {tgt : Nat} (hd : decode cc pc = .ok (.ifCond .le off, 3)) (ht : (pc : Int) + off = (tgt : Int)) (kt : x ≤ 0 → ¬ 0 < x → V p l e R s m args below meth c E AD Q ws (F0 m tgt ls st)) (kf : ¬ x ≤ 0 → 0 < x → V p l e R s m args below meth c E AD Q ws (F0 m (pc + 3) ls st)) : V p l e R s m args below meth c E AD Q ws (F0 m pc ls (.int x :: st)) := fun H locs a b d f => lv_if_le F.1 F.2.1 hd ht (fun h => kt h (Int32.not_lt.mpr h) H locs a b d f) (fun h => kf h (Int32.not_le.mp h) H locs a b d f)
theorem V.icmp_eq (F : CallFix p m c cc nL s args LW own) {x y : Int32} {off : Int} {tgt : Nat} (hd : decode cc pc = .ok (.if_icmp .eq off, 3)) (ht : (pc : Int) + off = (tgt : Int)) (kt : x = y → V p l e R s m args below meth c E AD Q ws (F0 m tgt ls st)) (kf : ¬ x = y → V p l e R s m args below meth c E AD Q ws (F0 m (pc + 3) ls st)) : V p l e R s m args below meth c E AD Q ws (F0 m pc ls (.int y :: .int x :: st)) := fun H locs a b d f => lv_icmp_eq F.1 F.2.1 hd ht (fun h => kt h H locs a b d f) (fun h => kf h H locs a b d f)
theorem V.icmp_ne (F : CallFix p m c cc nL s args LW own) {x y : Int32} {off : Int} {tgt : Nat} (hd : decode cc pc = .ok (.if_icmp .ne off, 3)) (ht : (pc : Int) + off = (tgt : Int)) (kt : ¬ x = y → V p l e R s m args below meth c E AD Q ws (F0 m tgt ls st)) (kf : x = y → V p l e R s m args below meth c E AD Q ws (F0 m (pc + 3) ls st)) : V p l e R s m args below meth c E AD Q ws (F0 m pc ls (.int y :: .int x :: st)) := fun H locs a b d f => lv_icmp_ne F.1 F.2.1 hd ht (fun h => kt h H locs a b d f) (fun h => kf h H locs a b d f)
theorem V.if_eq (F : CallFix p m c cc nL s args LW own) {x : Int32} {off : Int} {tgt : Nat} (hd : decode cc pc = .ok (.ifCond .eq off, 3)) (ht : (pc : Int) + off = (tgt : Int)) (kt : x = 0 → V p l e R s m args below meth c E AD Q ws (F0 m tgt ls st)) (kf : ¬ x = 0 → V p l e R s m args below meth c E AD Q ws (F0 m (pc + 3) ls st)) : V p l e R s m args below meth c E AD Q ws (F0 m pc ls (.int x :: st)) := fun H locs a b d f => lv_if_eq F.1 F.2.1 hd ht (fun h => kt h H locs a b d f) (fun h => kf h H locs a b d f)
theorem V.if_ne (F : CallFix p m c cc nL s args LW own) {x : Int32} {off : Int} {tgt : Nat} (hd : decode cc pc = .ok (.ifCond .ne off, 3)) (ht : (pc : Int) + off = (tgt : Int)) (kt : ¬ x = 0 → V p l e R s m args below meth c E AD Q ws (F0 m tgt ls st)) (kf : x = 0 → V p l e R s m args below meth c E AD Q ws (F0 m (pc + 3) ls st)) : V p l e R s m args below meth c E AD Q ws (F0 m pc ls (.int x :: st)) := fun H locs a b d f => lv_if_ne F.1 F.2.1 hd ht (fun h => kt h H locs a b d f) (fun h => kf h H locs a b d f)
theorem V.if_eqB (F : CallFix p m c cc nL s args LW own) {P : Prop} [Decidable P] {x : Int32} {off : Int} {tgt : Nat} (hz : x = bI P) (hd : decode cc pc = .ok (.ifCond .eq off, 3)) (ht : (pc : Int) + off = (tgt : Int)) (kt : ¬ P → V p l e R s m args below meth c E AD Q ws (F0 m tgt ls st)) (kf : P → V p l e R s m args below meth c E AD Q ws (F0 m (pc + 3) ls st)) : V p l e R s m args below meth c E AD Q ws (F0 m pc ls (.int x :: st)) := fun H locs a b d f => lv_if_eq F.1 F.2.1 hd ht (fun h => kt (bI_0 (hz ▸ h)) H locs a b d f) (fun h => kf (bI_1 (hz ▸ h)) H locs a b d f)
theorem V.if_neB (F : CallFix p m c cc nL s args LW own) {P : Prop} [Decidable P] {x : Int32} {off : Int} {tgt : Nat} (hz : x = bI P) (hd : decode cc pc = .ok (.ifCond .ne off, 3)) (ht : (pc : Int) + off = (tgt : Int)) (kt : P → V p l e R s m args below meth c E AD Q ws (F0 m tgt ls st)) (kf : ¬ P → V p l e R s m args below meth c E AD Q ws (F0 m (pc + 3) ls st)) : V p l e R s m args below meth c E AD Q ws (F0 m pc ls (.int x :: st)) := fun H locs a b d f => lv_if_ne F.1 F.2.1 hd ht (fun h => kt (bI_1 (hz ▸ h)) H locs a b d f) (fun h => kf (bI_0 (hz ▸ h)) H locs a b d f)
theorem V.ifnonnull (F : CallFix p m c cc nL s args LW own) {x : Nat} {off : Int} {tgt : Nat} (hd : decode cc pc = .ok (.ifnonnull off, 3)) (ht : (pc : Int) + off = (tgt : Int)) (k : V p l e R s m args below meth c E AD Q ws (F0 m tgt ls st)) : V p l e R s m args below meth c E AD Q ws (F0 m pc ls (.ref x :: st)) := V.go (fun _ _ k => lv_ifnonnull F.1 F.2.1 hd ht k) k
theorem V.ifnull (F : CallFix p m c cc nL s args LW own) {x : Nat} {off : Int} (hd : decode cc pc = .ok (.ifnull off, 3)) (k : V p l e R s m args below meth c E AD Q ws (F0 m (pc + 3) ls st)) : V p l e R s m args below meth c E AD Q ws (F0 m pc ls (.ref x :: st)) := V.go (fun _ _ k => lv_ifnull F.1 F.2.1 hd k) k
theorem V.ifnullN (F : CallFix p m c cc nL s args LW own) {off : Int} {tgt : Nat} (hd : decode cc pc = .ok (.ifnull off, 3)) (ht : (pc : Int) + off = (tgt : Int)) (k : V p l e R s m args below meth c E AD Q ws (F0 m tgt ls st)) : V p l e R s m args below meth c E AD Q ws (F0 m pc ls (.null :: st)) := V.go (fun _ _ k => lv_ifnullN F.1 F.2.1 hd ht k) k
theorem V.lookup (F : CallFix p m c cc nL s args LW own) {dflt : Int} {ps : Array (Int × Int)} {len : Nat} {x : Int32} {off : Int} {tgt : Nat} (hd : decode cc pc = .ok (.lookupswitch dflt ps, len)) (hp : (ps.toList.zip (ps.toList.drop 1)).all (fun (a, next) => a.1 < next.1) = true) (ho : Op.lookupswitch.offset ps.toList dflt x.toInt = off) (ht : (pc : Int) + off = (tgt : Int)) (k : V p l e R s m args below meth c E AD Q ws (F0 m tgt ls st)) : V p l e R s m args below meth c E AD Q ws (F0 m pc ls (.int x :: st)) := V.go (fun _ _ k => lv_lookup F.1 F.2.1 hd hp ho ht k) k
theorem V.tableOut (F : CallFix p m c cc nL s args LW own) {dflt lo hi : Int} {offs : Array Int} {len : Nat} {x : Int32} {tgt : Nat} (hd : decode cc pc = .ok (.tableswitch dflt lo hi offs, len)) (h : x.toInt < lo ∨ hi < x.toInt) (ht : (pc : Int) + dflt = (tgt : Int)) (k : V p l e R s m args below meth c E AD Q ws (F0 m tgt ls st)) : V p l e R s m args below meth c E AD Q ws (F0 m pc ls (.int x :: st)) := V.go (fun _ _ k => lv_tableOut F.1 F.2.1 hd h ht k) k
theorem V.tableIn (F : CallFix p m c cc nL s args LW own) {dflt lo hi : Int} {offs : Array Int} {len : Nat} {x : Int32} {off : Int} {tgt : Nat} (hd : decode cc pc = .ok (.tableswitch dflt lo hi offs, len)) (h1 : ¬ x.toInt < lo) (h2 : ¬ hi < x.toInt) (ho : offs[(x.toInt - lo).toNat]? = some off) (ht : (pc : Int) + off = (tgt : Int)) (k : V p l e R s m args below meth c E AD Q ws (F0 m tgt ls st)) : V p l e R s m args below meth c E AD Q ws (F0 m pc ls (.int x :: st)) := V.go (fun _ _ k => lv_tableIn F.1 F.2.1 hd h1 h2 ho ht k) k
def GF (own : String) (idx ci k : Nat) : Prop := ∃ (C : String) (T : u_T) (N : Nat), vwCl[ci]? = some (C, T, N) ∧ k < N ∧ (∀ w ∈ u_ws C T N, w ∈ LW) ∧ Cond.fieldLink own idx (T k).1 (T k).2.1 (T k).2.2.1 ∈ LW
def PF (own : String) (idx ci k : Nat) (ty : FieldType) : Prop := ∃ (C : String) (T : u_T) (N : Nat) (t : Nat → FieldType), vwCl[ci]? = some (C, T, N) ∧ k < N ∧ (∀ w ∈ u_ws C T N, w ∈ LW) ∧ Cond.fieldLink own idx (T k).1 (T k).2.1 (T k).2.2.1 ∈ LW ∧ (∀ k, k < N → parseFieldDescriptor (T k).2.2.1 = some (t k)) ∧ (∀ a, a < N → ∀ b, b < N → a ≠ b → (T a).2.1 ≠ (T b).2.1) ∧ (T k).2.2.2 = false ∧ parseFieldDescriptor (T k).2.2.1 = some ty
theorem V.getf (F : CallFix p m c cc nL s args LW own) (hE : CE E (fun q => q ∈ AD) s s.heap) {idx ci k a : Nat} {fs : List Value} {v : Value} (hg : GF own idx ci k) (q0 : Nat) (he : ws[q0]? = some (a, .inr (ci, fs))) (hv : fs[k]? = some v) (hd : decode cc pc = .ok (.getfield idx, 3)) (kk : V p l e R s m args below meth c E AD Q ws (F0 m (pc + 3) ls (v :: st))) : V p l e R s m args below meth c E AD Q ws (F0 m pc ls (.ref a :: st)) := by
  obtain ⟨C, T, N, h1, h2, h3, h4⟩ := hg
  exact fun H locs a b d f => va_get F.1 F.2.1 F.2.2.2.2 h3 F.2.2.2.1 hE.1 a q0 he h1 k h2 (F.2.2.2.2 _ h4) (fun _ h => h) hv hd (kk H locs a b d f)
theorem V.getfi (F : CallFix p m c cc nL s args LW own) (hE : CE E (fun q => q ∈ AD) s s.heap) {idx ci k a : Nat} {fs : List Value} {v : Int32} (hg : GF own idx ci k) (q0 : Nat) (he : ws[q0]? = some (a, .inr (ci, fs))) (hv : fs[k]? = some (.int v)) (hd : decode cc pc = .ok (.getfield idx, 3)) (kk : ∀ z : Int32, z = v → V p l e R s m args below meth c E AD Q ws (F0 m (pc + 3) ls (.int z :: st))) : V p l e R s m args below meth c E AD Q ws (F0 m pc ls (.ref a :: st)) := V.getf F hE hg q0 he hv hd (kk v rfl)
theorem V.putf (F : CallFix p m c cc nL s args LW own) (hE : CE E (fun q => q ∈ AD) s s.heap) (hN : AD.Nodup) (hA : ads ws = AD) {idx ci k a : Nat} {fs : List Value} {v : Value} {ty : FieldType} (hg : PF own idx ci k ty) (hn : narrow ty v = v) (hfit : fits ty v = true) (q0 : Nat) (he : ws[q0]? = some (a, .inr (ci, fs))) (hl : k < fs.length) (hd : decode cc pc = .ok (.putfield idx, 3)) {ws' : va_W} (hw : ws.set q0 (a, .inr (ci, fs.set k v)) = ws') (kk : V p l e R s m args below meth c E AD Q ws' (F0 m (pc + 3) ls st)) : V p l e R s m args below meth c E AD Q ws (F0 m pc ls (v :: .ref a :: st)) := by
  obtain ⟨C, T, N, t, hc, hk, hin, hlink, hty, hnm, hfin, hd2⟩ := hg
  intro H locs hP hz ho hlo
  subst hw
  have hK := hE.1
  have hts := F.2.2.2.2
  have hap := va_apart (own := own) hts hin t hty hnm hK hc
  obtain ⟨r, h1, cell, q1, q2, q3, q4⟩ := hP q0 _ he
  have hr : r = (C, T, N) := Option.some.inj (h1.symm.trans hc)
  subst hr
  obtain ⟨hS, hfc, kC, hkC, hkind⟩ := hK.1 ci _ hc
  obtain ⟨cf, kf, fi, f, hi, hsl⟩ := hS k hk
  have hlay := hts _ (hin _ (u_in_lay hk))
  unfold u_lay at hlay
  rw [if_neg (by rw [hfin]; decide)] at hlay
  have hst := (u_facts hfc hkC (u_lays hts hin hk) hi).1
  have h6 := u_store hfc hkC hkind hlay hi hd2 hn hfit
  have haA : a ∈ AD := by rw [← hA]; exact List.mem_map.mpr ⟨_, List.mem_of_getElem? he, rfl⟩
  refine W.putK F.1 F.2.1 (f := f) ⟨F.2.2.2.1, hts _ hlink, ⟨_, _, _, hi⟩, hst⟩ (by rw [q2]; exact h6) q1 q3 (by rw [hsl]; exact k2_hasslot (q4 k hk)) rfl rfl hd fun H' e1 e2 e3 => ?_
  rw [hsl] at e1 ⊢
  refine kk H' _ (P_set hP (hA ▸ hN) he ⟨_, hc, t_OB.to (V := updV (vp_V fs) k v) ⟨_, e1, q2, q3, t_set q4 hap hk v⟩ (fun j _ => vp_updV_set hl v j)⟩ e3) (e2.trans hz) (fun q hq => (e3 q (fun h => hq (h ▸ haA))).trans (ho q hq)) (fun z hz => ?_)
  rcases List.mem_append.mp hz with h | h
  · exact hlo z h
  · rw [List.mem_singleton.mp h]; exact haA
theorem V.iald (F : CallFix p m c cc nL s args LW own) (hE : CE E (fun q => q ∈ AD) s s.heap) {a n : Nat} {f : Nat → Int32} {i : Int32} (q0 : Nat) (he : ws[q0]? = some (a, .inl (eK E, n, .inl f))) (hin : vp_in i n) (hd : decode cc pc = .ok (.iaload, 1)) (kk : ∀ z : Int32, z = f i.toNatClampNeg → V p l e R s m args below meth c E AD Q ws (F0 m (pc + 1) ls (.int z :: st))) : V p l e R s m args below meth c E AD Q ws (F0 m pc ls (.int i :: .ref a :: st)) :=
  fun H locs a b d f => va_iald F.1 F.2.1 hE.1 a q0 0 he rfl hin hd (kk _ rfl H locs a b d f)
theorem V.alen (F : CallFix p m c cc nL s args LW own) (hE : CE E (fun q => q ∈ AD) s s.heap) {a n : Nat} {f : Nat → Int32} (q0 : Nat) (he : ws[q0]? = some (a, .inl (eK E, n, .inl f))) (hd : decode cc pc = .ok (.arraylength, 1)) (kk : ∀ z : Int32, z = nI n → V p l e R s m args below meth c E AD Q ws (F0 m (pc + 1) ls (.int z :: st))) : V p l e R s m args below meth c E AD Q ws (F0 m pc ls (.ref a :: st)) :=
  fun H locs a b d f => va_alen F.1 F.2.1 hE.1 a q0 0 he (ty := .int) rfl rfl hd (kk _ rfl H locs a b d f)
theorem V.iast (F : CallFix p m c cc nL s args LW own) (hE : CE E (fun q => q ∈ AD) s s.heap) (hN : AD.Nodup) (hA : ads ws = AD) {a n : Nat} {f : Nat → Int32} {i x : Int32} (q0 : Nat) (he : ws[q0]? = some (a, .inl (eK E, n, .inl f))) (hin : vp_in i n) (hd : decode cc pc = .ok (.iastore, 1)) {ws' : va_W} (hw : ws.set q0 (a, .inl (eK E, n, .inl (upd f i.toNatClampNeg x))) = ws') (kk : V p l e R s m args below meth c E AD Q ws' (F0 m (pc + 1) ls st)) : V p l e R s m args below meth c E AD Q ws (F0 m pc ls (.int x :: .int i :: .ref a :: st)) := by
  intro H locs hP hz ho hlo
  subst hw
  have haA : a ∈ AD := by rw [← hA]; exact List.mem_map.mpr ⟨_, List.mem_of_getElem? he, rfl⟩
  refine W.iast F.1 F.2.1 (hP q0 _ he) ((hE.1.2 0 _ rfl).1 n (fun j => .int (f j))) (fun q => by cases q) (by show ¬ (i < 0 ∨ (arrV _ _ _).slots.size ≤ _); rw [arrV_size]; exact hin) rfl rfl hd fun H1 e z oq => ?_
  refine kk H1 _ (P_set hP (hA ▸ hN) he ?_ oq) (z.trans hz) (fun q hq => (oq q (fun h => hq (h ▸ haA))).trans (ho q hq)) (fun z hz => ?_)
  · show H1[a]? = some (vp_cell _ _)
    rw [e]
    rw [vp_cell_i, vp_cell_i, arrV_store]
    congr 2
    funext q
    by_cases hq : q = i.toNatClampNeg
    · subst hq
      simp [updV, upd]
    · simp [updV, upd, hq]
  · rcases List.mem_append.mp hz with h | h
    · exact hlo z h
    · rw [List.mem_singleton.mp h]; exact haA
theorem V.gets (F : CallFix p m c cc nL s args LW own) (hE : CE E (fun q => q ∈ AD) s s.heap) {idx t : Nat} {n : String} {f : Nat → Int32} (hZ : Tb n t f (fun q => q ∈ AD) s s.heap) (hl : Cond.fieldLink own idx "StuntDesk" n "[I" ∈ LW) (hd : decode cc pc = .ok (.getstatic idx, 3)) (kk : V p l e R s m args below meth c E AD Q ws (F0 m (pc + 3) ls (.ref t :: st))) : V p l e R s m args below meth c E AD Q ws (F0 m pc ls st) :=
  fun H locs a b d f => va_gets F.1 F.2.1 hZ.1 ⟨Nat.le_of_eq b.symm, fun q _ h2 => d q h2, f⟩ F.2.2.2.1 (F.2.2.2.2 _ hl) (fun _ h => h) hd (kk H locs a b d f)
theorem V.getsN (F : CallFix p m c cc nL s args LW own) (hE : CE E (fun q => q ∈ AD) s s.heap) {idx t : Nat} {n : String} {f : Nat → Int32} (hZ : Tb n t f (fun q => q ∈ AD) s s.heap) (hl : Cond.fieldLinkNest own idx "StuntDesk" n "[I" "StuntDesk" ∈ NWL) (hd : decode cc pc = .ok (.getstatic idx, 3)) (kk : V p l e R s m args below meth c E AD Q ws (F0 m (pc + 3) ls (.ref t :: st))) : V p l e R s m args below meth c E AD Q ws (F0 m pc ls st) :=
  fun H locs a b d f => va_getsN F.1 F.2.1 hZ.1 ⟨Nat.le_of_eq b.symm, fun q _ h2 => d q h2, f⟩ F.2.2.2.1 (va_Nw.use rfl (hE.2.1 _ hl)) (fun _ h => h) hd (kk H locs a b d f)
theorem V.tbald (F : CallFix p m c cc nL s args LW own) (hE : CE E (fun q => q ∈ AD) s s.heap) {t : Nat} {n : String} {f : Nat → Int32} {i : Int32} (hZ : Tb n t f (fun q => q ∈ AD) s s.heap) (hin : vp_in i 6) (hd : decode cc pc = .ok (.iaload, 1)) (kk : ∀ z : Int32, z = f i.toNatClampNeg → V p l e R s m args below meth c E AD Q ws (F0 m (pc + 1) ls (.int z :: st))) : V p l e R s m args below meth c E AD Q ws (F0 m pc ls (.int i :: .ref t :: st)) := by
  intro H locs a b d f
  obtain ⟨cell, h1, h2, h3, h4, h5, h6, h7⟩ := hZ.2
  have hlt : i.toNatClampNeg < 6 := Nat.not_le.mp fun q => hin (Or.inr q)
  exact W.iald F.1 F.2.1 (by rw [d t h7]; exact h1) h2 h3 (fun q => hin (q.imp id (fun z => Nat.le_trans h4 z))) (h6 _ hlt) rfl rfl hd (kk _ rfl H locs a b d f)
theorem V.tblen (F : CallFix p m c cc nL s args LW own) (hE : CE E (fun q => q ∈ AD) s s.heap) {t : Nat} {n : String} {f : Nat → Int32} (hZ : Tb n t f (fun q => q ∈ AD) s s.heap) (hd : decode cc pc = .ok (.arraylength, 1)) (kk : ∀ z : Int32, z = nI 6 → V p l e R s m args below meth c E AD Q ws (F0 m (pc + 1) ls (.int z :: st))) : V p l e R s m args below meth c E AD Q ws (F0 m pc ls (.ref t :: st)) := by
  intro H locs a b d f
  obtain ⟨cell, h1, h2, h3, h4, h5, h6, h7⟩ := hZ.2
  exact W.alen F.1 F.2.1 (by rw [d t h7]; exact h1) h2 h5 rfl rfl hd (kk _ rfl H locs a b d f)
theorem CE.at {A : Nat → Prop} (hE : CE E (fun q => q ∈ AD) s s.heap) {H : Heap} (ho : ∀ q : Nat, q ∉ AD → H[q]? = s.heap[q]?) (hA : ∀ q, A q → q ∈ AD) {U : State} (hU : U.heap = H) (hW : s.WarmedH U.vm) : CE E A U U.heap := by
  rw [hU]
  exact hE.tr hW (fun a _ h => ho a h) hA
theorem V.rdV (F : CallFix p m c cc nL s args LW own) (hE : CE E (fun q => q ∈ AD) s s.heap) {C : String} {b q0 ci : Nat} {T : u_T} {N0 : Nat} {fs : List Value} {index : Nat} {y : MethodName} {bytes : ByteArray} {maxL n fr lo : Nat} {ret : Option FieldType} {v : Value} {As rest st0 : List Value} {wc : va_W} (hM : Rd l E y bytes maxL ret fr lo (.ref b :: As) wc (some v)) (cw : CallW R s args own C index y bytes maxL ret (Cond.code y bytes maxL ret :: LW) (rmk fr 0 0 lo) 0 0 n) (hob : ws[q0]? = some (b, .inr (ci, fs))) (hcl : vwCl[ci]? = some (C, T, N0)) (is : List Nat) (hC : is.map (fun i => ws[i]?) = wc.map some) (hn : As.length = n) (hsz : ls.size = nL) (hroom : (rest.map fun v => v.category).sum ≤ 8) (hd : decode cc pc = .ok (.invokevirtual index, 3)) (hst : st0 = As.reverse ++ .ref b :: rest) (k : V p l e R s m args below meth c E AD Q ws (F0 m (pc + 3) ls (v :: rest))) : V p l e R s m args below meth c E AD Q ws (F0 m pc ls st0) := by
  intro H locs hP hz ho hl
  subst hst
  have hr : va_Run p l e R s m args below meth c H locs 0 0 0 0 (F0 m pc ls (As.reverse ++ .ref b :: rest)) rest (RQ (some v) ((Value.ref b :: As)).toArray) (fun _ => False) := va_runV (As := As) (rest := rest) F hM cw ⟨PB.blind, va_recv hE.1 hP hcl hob, fun U hU hW => ⟨rfl, by rw [hU]; exact P_sub hP is hC, hE.at ho (fun _ h => h.elim) hU hW⟩⟩ rfl hn hsz rfl (lv_room hroom) hd ⟨Nat.zero_le _, Nat.zero_le _⟩
  intro T hT X
  obtain ⟨v', st₀, t, T', L, h0, X', hL, e1, e2, ⟨hv, hh⟩, stp⟩ := hr T hT X
  cases hv
  have hLn : L = [] := by
    cases L with
    | nil => rfl
    | cons a _ => exact (hL a List.mem_cons_self).elim
  subst hLn
  rw [List.append_nil] at X'
  obtain ⟨t2, a1, b1⟩ := k H locs hP hz ho hl T' (by rw [e1, hh, h0]) X'
  exact ⟨t2, stp t2 a1, b1⟩
theorem V.wrV (F : CallFix p m c cc nL s args LW own) (hE : CE E (fun q => q ∈ AD) s s.heap) (hN : AD.Nodup) (hA : ads ws = AD) {C : String} {b q0 ci : Nat} {T : u_T} {N0 : Nat} {fs : List Value} {index : Nat} {y : MethodName} {bytes : ByteArray} {maxL n fr lo : Nat} {ret : Option FieldType} {v : Value} {As rest st0 : List Value} {wc wc' ws' : va_W} (hM : Wr l E y bytes maxL ret fr lo (.ref b :: As) wc wc' (some v)) (cw : CallW R s args own C index y bytes maxL ret (Cond.code y bytes maxL ret :: LW) (rmk fr 0 0 lo) 0 0 n) (hob : ws[q0]? = some (b, .inr (ci, fs))) (hcl : vwCl[ci]? = some (C, T, N0)) (is : List Nat) (hC : is.map (fun i => ws[i]?) = wc.map some) (hnd : va_nd is = true) (hlen : wc'.length = wc.length) (hw : mrg is ws wc' = ws') (hn : As.length = n) (hsz : ls.size = nL) (hroom : (rest.map fun v => v.category).sum ≤ 8) (hd : decode cc pc = .ok (.invokevirtual index, 3)) (hst : st0 = As.reverse ++ .ref b :: rest) (k : V p l e R s m args below meth c E AD Q ws' (F0 m (pc + 3) ls (v :: rest))) : V p l e R s m args below meth c E AD Q ws (F0 m pc ls st0) := by
  intro H locs hP hz ho hl
  subst hst
  subst hw
  have hcA : ∀ q, q ∈ ads wc → q ∈ AD := fun q h => hA ▸ sub_ads hC q h
  have hr : va_Run p l e R s m args below meth c H locs 0 0 0 0 (F0 m pc ls (As.reverse ++ .ref b :: rest)) rest (WQ E wc wc' (some v) ((Value.ref b :: As)).toArray) (fun q => q ∈ ads wc) := va_runV (As := As) (rest := rest) F hM cw ⟨PW.blind, va_recv hE.1 hP hcl hob, fun U hU hW => ⟨rfl, by rw [hU]; exact P_sub hP is hC, nodup_of (hA ▸ hN) is hC hnd, hE.at ho hcA hU hW⟩⟩ rfl hn hsz rfl (lv_room hroom) hd ⟨Nat.zero_le _, Nat.zero_le _⟩
  intro T hT X
  obtain ⟨v', st₀, t, T', L, h0, X', hL, e1, e2, ⟨hv, hp', hz', ho'⟩, stp⟩ := hr T hT X
  cases hv
  rw [h0] at hz' ho'
  obtain ⟨t2, a1, b1⟩ := k T'.heap (locs ++ L) (P_mrg hP (hA ▸ hN) is hC hlen (fun q hq => by rw [e1]; exact ho' q hq) (by rw [e1]; exact hp')) (by rw [e1, hz', hz]) (fun q hq => by rw [e1, ho' q (fun h => hq (hcA q h))]; exact ho q hq) (fun z hz => (List.mem_append.mp hz).elim (hl z) (fun h => hcA _ (hL z h))) T' rfl X'
  exact ⟨t2, stp t2 a1, b1⟩
theorem V.rdVn (F : CallFix p m c cc nL s args LW own) (hE : CE E (fun q => q ∈ AD) s s.heap) {C : String} {b q0 ci : Nat} {T : u_T} {N0 : Nat} {fs : List Value} {index : Nat} {y : MethodName} {bytes : ByteArray} {maxL n fr lo : Nat} {ret : Option FieldType} {As rest st0 : List Value} {wc : va_W} (hM : Rd l E y bytes maxL ret fr lo (.ref b :: As) wc none) (cw : CallW R s args own C index y bytes maxL ret (Cond.code y bytes maxL ret :: LW) (rmk fr 0 0 lo) 0 0 n) (hob : ws[q0]? = some (b, .inr (ci, fs))) (hcl : vwCl[ci]? = some (C, T, N0)) (is : List Nat) (hC : is.map (fun i => ws[i]?) = wc.map some) (hn : As.length = n) (hsz : ls.size = nL) (hroom : (rest.map fun v => v.category).sum ≤ 8) (hd : decode cc pc = .ok (.invokevirtual index, 3)) (hst : st0 = As.reverse ++ .ref b :: rest) (k : V p l e R s m args below meth c E AD Q ws (F0 m (pc + 3) ls rest)) : V p l e R s m args below meth c E AD Q ws (F0 m pc ls st0) := by
  intro H locs hP hz ho hl
  subst hst
  have hr : va_Run p l e R s m args below meth c H locs 0 0 0 0 (F0 m pc ls (As.reverse ++ .ref b :: rest)) rest (RQ none ((Value.ref b :: As)).toArray) (fun _ => False) := va_runV (As := As) (rest := rest) F hM cw ⟨PB.blind, va_recv hE.1 hP hcl hob, fun U hU hW => ⟨rfl, by rw [hU]; exact P_sub hP is hC, hE.at ho (fun _ h => h.elim) hU hW⟩⟩ rfl hn hsz rfl (lv_room hroom) hd ⟨Nat.zero_le _, Nat.zero_le _⟩
  intro T hT X
  obtain ⟨v', st₀, t, T', L, h0, X', hL, e1, e2, ⟨hv, hh⟩, stp⟩ := hr T hT X
  cases hv
  have hLn : L = [] := by
    cases L with
    | nil => rfl
    | cons a _ => exact (hL a List.mem_cons_self).elim
  subst hLn
  rw [List.append_nil] at X'
  obtain ⟨t2, a1, b1⟩ := k H locs hP hz ho hl T' (by rw [e1, hh, h0]) X'
  exact ⟨t2, stp t2 a1, b1⟩
theorem V.wrVn (F : CallFix p m c cc nL s args LW own) (hE : CE E (fun q => q ∈ AD) s s.heap) (hN : AD.Nodup) (hA : ads ws = AD) {C : String} {b q0 ci : Nat} {T : u_T} {N0 : Nat} {fs : List Value} {index : Nat} {y : MethodName} {bytes : ByteArray} {maxL n fr lo : Nat} {ret : Option FieldType} {As rest st0 : List Value} {wc wc' ws' : va_W} (hM : Wr l E y bytes maxL ret fr lo (.ref b :: As) wc wc' none) (cw : CallW R s args own C index y bytes maxL ret (Cond.code y bytes maxL ret :: LW) (rmk fr 0 0 lo) 0 0 n) (hob : ws[q0]? = some (b, .inr (ci, fs))) (hcl : vwCl[ci]? = some (C, T, N0)) (is : List Nat) (hC : is.map (fun i => ws[i]?) = wc.map some) (hnd : va_nd is = true) (hlen : wc'.length = wc.length) (hw : mrg is ws wc' = ws') (hn : As.length = n) (hsz : ls.size = nL) (hroom : (rest.map fun v => v.category).sum ≤ 8) (hd : decode cc pc = .ok (.invokevirtual index, 3)) (hst : st0 = As.reverse ++ .ref b :: rest) (k : V p l e R s m args below meth c E AD Q ws' (F0 m (pc + 3) ls rest)) : V p l e R s m args below meth c E AD Q ws (F0 m pc ls st0) := by
  intro H locs hP hz ho hl
  subst hst
  subst hw
  have hcA : ∀ q, q ∈ ads wc → q ∈ AD := fun q h => hA ▸ sub_ads hC q h
  have hr : va_Run p l e R s m args below meth c H locs 0 0 0 0 (F0 m pc ls (As.reverse ++ .ref b :: rest)) rest (WQ E wc wc' none ((Value.ref b :: As)).toArray) (fun q => q ∈ ads wc) := va_runV (As := As) (rest := rest) F hM cw ⟨PW.blind, va_recv hE.1 hP hcl hob, fun U hU hW => ⟨rfl, by rw [hU]; exact P_sub hP is hC, nodup_of (hA ▸ hN) is hC hnd, hE.at ho hcA hU hW⟩⟩ rfl hn hsz rfl (lv_room hroom) hd ⟨Nat.zero_le _, Nat.zero_le _⟩
  intro T hT X
  obtain ⟨v', st₀, t, T', L, h0, X', hL, e1, e2, ⟨hv, hp', hz', ho'⟩, stp⟩ := hr T hT X
  cases hv
  rw [h0] at hz' ho'
  obtain ⟨t2, a1, b1⟩ := k T'.heap (locs ++ L) (P_mrg hP (hA ▸ hN) is hC hlen (fun q hq => by rw [e1]; exact ho' q hq) (by rw [e1]; exact hp')) (by rw [e1, hz', hz]) (fun q hq => by rw [e1, ho' q (fun h => hq (hcA q h))]; exact ho q hq) (fun z hz => (List.mem_append.mp hz).elim (hl z) (fun h => hcA _ (hL z h))) T' rfl X'
  exact ⟨t2, stp t2 a1, b1⟩
theorem V.rdS (F : CallFix p m c cc nL s args LW own) (hE : CE E (fun q => q ∈ AD) s s.heap) {index : Nat} {y : MethodName} {bytes : ByteArray} {maxL n fr lo : Nat} {ret : Option FieldType} {v : Value} {As rest st0 : List Value} {wc : va_W} (hM : Rd l E y bytes maxL ret fr lo As wc (some v)) (cw : CallB R s args own index y bytes maxL ret (Cond.code y bytes maxL ret :: LW) (rmk fr 0 0 lo) 0 0 n ∧ (Cond.static y).before args s = true) (is : List Nat) (hC : is.map (fun i => ws[i]?) = wc.map some) (hn : As.length = n) (hsz : ls.size = nL) (hroom : (rest.map fun v => v.category).sum ≤ 8) (hd : decode cc pc = .ok (.invokestatic index, 3)) (hst : st0 = As.reverse ++ rest) (k : V p l e R s m args below meth c E AD Q ws (F0 m (pc + 3) ls (v :: rest))) : V p l e R s m args below meth c E AD Q ws (F0 m pc ls st0) := by
  intro H locs hP hz ho hl
  subst hst
  have hr : va_Run p l e R s m args below meth c H locs 0 0 0 0 (F0 m pc ls (As.reverse ++ rest)) rest (RQ (some v) (As).toArray) (fun _ => False) := va_runS (As := As) (rest := rest) F hM cw ⟨PB.blind, fun U hU hW => ⟨rfl, by rw [hU]; exact P_sub hP is hC, hE.at ho (fun _ h => h.elim) hU hW⟩⟩ rfl hn hsz rfl (lv_room hroom) hd ⟨Nat.zero_le _, Nat.zero_le _⟩
  intro T hT X
  obtain ⟨v', st₀, t, T', L, h0, X', hL, e1, e2, ⟨hv, hh⟩, stp⟩ := hr T hT X
  cases hv
  have hLn : L = [] := by
    cases L with
    | nil => rfl
    | cons a _ => exact (hL a List.mem_cons_self).elim
  subst hLn
  rw [List.append_nil] at X'
  obtain ⟨t2, a1, b1⟩ := k H locs hP hz ho hl T' (by rw [e1, hh, h0]) X'
  exact ⟨t2, stp t2 a1, b1⟩
theorem V.wrS (F : CallFix p m c cc nL s args LW own) (hE : CE E (fun q => q ∈ AD) s s.heap) (hN : AD.Nodup) (hA : ads ws = AD) {index : Nat} {y : MethodName} {bytes : ByteArray} {maxL n fr lo : Nat} {ret : Option FieldType} {v : Value} {As rest st0 : List Value} {wc wc' ws' : va_W} (hM : Wr l E y bytes maxL ret fr lo As wc wc' (some v)) (cw : CallB R s args own index y bytes maxL ret (Cond.code y bytes maxL ret :: LW) (rmk fr 0 0 lo) 0 0 n ∧ (Cond.static y).before args s = true) (is : List Nat) (hC : is.map (fun i => ws[i]?) = wc.map some) (hnd : va_nd is = true) (hlen : wc'.length = wc.length) (hw : mrg is ws wc' = ws') (hn : As.length = n) (hsz : ls.size = nL) (hroom : (rest.map fun v => v.category).sum ≤ 8) (hd : decode cc pc = .ok (.invokestatic index, 3)) (hst : st0 = As.reverse ++ rest) (k : V p l e R s m args below meth c E AD Q ws' (F0 m (pc + 3) ls (v :: rest))) : V p l e R s m args below meth c E AD Q ws (F0 m pc ls st0) := by
  intro H locs hP hz ho hl
  subst hst
  subst hw
  have hcA : ∀ q, q ∈ ads wc → q ∈ AD := fun q h => hA ▸ sub_ads hC q h
  have hr : va_Run p l e R s m args below meth c H locs 0 0 0 0 (F0 m pc ls (As.reverse ++ rest)) rest (WQ E wc wc' (some v) (As).toArray) (fun q => q ∈ ads wc) := va_runS (As := As) (rest := rest) F hM cw ⟨PW.blind, fun U hU hW => ⟨rfl, by rw [hU]; exact P_sub hP is hC, nodup_of (hA ▸ hN) is hC hnd, hE.at ho hcA hU hW⟩⟩ rfl hn hsz rfl (lv_room hroom) hd ⟨Nat.zero_le _, Nat.zero_le _⟩
  intro T hT X
  obtain ⟨v', st₀, t, T', L, h0, X', hL, e1, e2, ⟨hv, hp', hz', ho'⟩, stp⟩ := hr T hT X
  cases hv
  rw [h0] at hz' ho'
  obtain ⟨t2, a1, b1⟩ := k T'.heap (locs ++ L) (P_mrg hP (hA ▸ hN) is hC hlen (fun q hq => by rw [e1]; exact ho' q hq) (by rw [e1]; exact hp')) (by rw [e1, hz', hz]) (fun q hq => by rw [e1, ho' q (fun h => hq (hcA q h))]; exact ho q hq) (fun z hz => (List.mem_append.mp hz).elim (hl z) (fun h => hcA _ (hL z h))) T' rfl X'
  exact ⟨t2, stp t2 a1, b1⟩
theorem V.rdSn (F : CallFix p m c cc nL s args LW own) (hE : CE E (fun q => q ∈ AD) s s.heap) {index : Nat} {y : MethodName} {bytes : ByteArray} {maxL n fr lo : Nat} {ret : Option FieldType} {As rest st0 : List Value} {wc : va_W} (hM : Rd l E y bytes maxL ret fr lo As wc none) (cw : CallB R s args own index y bytes maxL ret (Cond.code y bytes maxL ret :: LW) (rmk fr 0 0 lo) 0 0 n ∧ (Cond.static y).before args s = true) (is : List Nat) (hC : is.map (fun i => ws[i]?) = wc.map some) (hn : As.length = n) (hsz : ls.size = nL) (hroom : (rest.map fun v => v.category).sum ≤ 8) (hd : decode cc pc = .ok (.invokestatic index, 3)) (hst : st0 = As.reverse ++ rest) (k : V p l e R s m args below meth c E AD Q ws (F0 m (pc + 3) ls rest)) : V p l e R s m args below meth c E AD Q ws (F0 m pc ls st0) := by
  intro H locs hP hz ho hl
  subst hst
  have hr : va_Run p l e R s m args below meth c H locs 0 0 0 0 (F0 m pc ls (As.reverse ++ rest)) rest (RQ none (As).toArray) (fun _ => False) := va_runS (As := As) (rest := rest) F hM cw ⟨PB.blind, fun U hU hW => ⟨rfl, by rw [hU]; exact P_sub hP is hC, hE.at ho (fun _ h => h.elim) hU hW⟩⟩ rfl hn hsz rfl (lv_room hroom) hd ⟨Nat.zero_le _, Nat.zero_le _⟩
  intro T hT X
  obtain ⟨v', st₀, t, T', L, h0, X', hL, e1, e2, ⟨hv, hh⟩, stp⟩ := hr T hT X
  cases hv
  have hLn : L = [] := by
    cases L with
    | nil => rfl
    | cons a _ => exact (hL a List.mem_cons_self).elim
  subst hLn
  rw [List.append_nil] at X'
  obtain ⟨t2, a1, b1⟩ := k H locs hP hz ho hl T' (by rw [e1, hh, h0]) X'
  exact ⟨t2, stp t2 a1, b1⟩
theorem V.wrSn (F : CallFix p m c cc nL s args LW own) (hE : CE E (fun q => q ∈ AD) s s.heap) (hN : AD.Nodup) (hA : ads ws = AD) {index : Nat} {y : MethodName} {bytes : ByteArray} {maxL n fr lo : Nat} {ret : Option FieldType} {As rest st0 : List Value} {wc wc' ws' : va_W} (hM : Wr l E y bytes maxL ret fr lo As wc wc' none) (cw : CallB R s args own index y bytes maxL ret (Cond.code y bytes maxL ret :: LW) (rmk fr 0 0 lo) 0 0 n ∧ (Cond.static y).before args s = true) (is : List Nat) (hC : is.map (fun i => ws[i]?) = wc.map some) (hnd : va_nd is = true) (hlen : wc'.length = wc.length) (hw : mrg is ws wc' = ws') (hn : As.length = n) (hsz : ls.size = nL) (hroom : (rest.map fun v => v.category).sum ≤ 8) (hd : decode cc pc = .ok (.invokestatic index, 3)) (hst : st0 = As.reverse ++ rest) (k : V p l e R s m args below meth c E AD Q ws' (F0 m (pc + 3) ls rest)) : V p l e R s m args below meth c E AD Q ws (F0 m pc ls st0) := by
  intro H locs hP hz ho hl
  subst hst
  subst hw
  have hcA : ∀ q, q ∈ ads wc → q ∈ AD := fun q h => hA ▸ sub_ads hC q h
  have hr : va_Run p l e R s m args below meth c H locs 0 0 0 0 (F0 m pc ls (As.reverse ++ rest)) rest (WQ E wc wc' none (As).toArray) (fun q => q ∈ ads wc) := va_runS (As := As) (rest := rest) F hM cw ⟨PW.blind, fun U hU hW => ⟨rfl, by rw [hU]; exact P_sub hP is hC, nodup_of (hA ▸ hN) is hC hnd, hE.at ho hcA hU hW⟩⟩ rfl hn hsz rfl (lv_room hroom) hd ⟨Nat.zero_le _, Nat.zero_le _⟩
  intro T hT X
  obtain ⟨v', st₀, t, T', L, h0, X', hL, e1, e2, ⟨hv, hp', hz', ho'⟩, stp⟩ := hr T hT X
  cases hv
  rw [h0] at hz' ho'
  obtain ⟨t2, a1, b1⟩ := k T'.heap (locs ++ L) (P_mrg hP (hA ▸ hN) is hC hlen (fun q hq => by rw [e1]; exact ho' q hq) (by rw [e1]; exact hp')) (by rw [e1, hz', hz]) (fun q hq => by rw [e1, ho' q (fun h => hq (hcA q h))]; exact ho q hq) (fun z hz => (List.mem_append.mp hz).elim (hl z) (fun h => hcA _ (hL z h))) T' rfl X'
  exact ⟨t2, stp t2 a1, b1⟩
theorem V.rdVN (F : CallFix p m c cc nL s args LW own) (hE : CE E (fun q => q ∈ AD) s s.heap) {C : String} {b q0 ci : Nat} {T : u_T} {N0 : Nat} {fs : List Value} {host : String} {index : Nat} {y : MethodName} {bytes : ByteArray} {maxL n fr lo : Nat} {ret : Option FieldType} {v : Value} {As rest st0 : List Value} {wc : va_W} (hM : Rd l E y bytes maxL ret fr lo (.ref b :: As) wc (some v)) (cw : va_CN R s args own index y host bytes maxL ret (Cond.code y bytes maxL ret :: LW) (rmk fr 0 0 lo) 0 0 n ∧ (Cond.instanceMethod y).before args s = true ∧ (Cond.selects C y y).before args s = true) (hob : ws[q0]? = some (b, .inr (ci, fs))) (hcl : vwCl[ci]? = some (C, T, N0)) (is : List Nat) (hC : is.map (fun i => ws[i]?) = wc.map some) (hn : As.length = n) (hsz : ls.size = nL) (hroom : (rest.map fun v => v.category).sum ≤ 8) (hd : decode cc pc = .ok (.invokevirtual index, 3)) (hst : st0 = As.reverse ++ .ref b :: rest) (k : V p l e R s m args below meth c E AD Q ws (F0 m (pc + 3) ls (v :: rest))) : V p l e R s m args below meth c E AD Q ws (F0 m pc ls st0) := by
  intro H locs hP hz ho hl
  subst hst
  have hr : va_Run p l e R s m args below meth c H locs 0 0 0 0 (F0 m pc ls (As.reverse ++ .ref b :: rest)) rest (RQ (some v) ((Value.ref b :: As)).toArray) (fun _ => False) := va_runVN (As := As) (rest := rest) F hM cw ⟨PB.blind, va_recv hE.1 hP hcl hob, fun U hU hW => ⟨rfl, by rw [hU]; exact P_sub hP is hC, hE.at ho (fun _ h => h.elim) hU hW⟩⟩ rfl hn hsz rfl (lv_room hroom) hd ⟨Nat.zero_le _, Nat.zero_le _⟩
  intro T hT X
  obtain ⟨v', st₀, t, T', L, h0, X', hL, e1, e2, ⟨hv, hh⟩, stp⟩ := hr T hT X
  cases hv
  have hLn : L = [] := by
    cases L with
    | nil => rfl
    | cons a _ => exact (hL a List.mem_cons_self).elim
  subst hLn
  rw [List.append_nil] at X'
  obtain ⟨t2, a1, b1⟩ := k H locs hP hz ho hl T' (by rw [e1, hh, h0]) X'
  exact ⟨t2, stp t2 a1, b1⟩
theorem V.wrVN (F : CallFix p m c cc nL s args LW own) (hE : CE E (fun q => q ∈ AD) s s.heap) (hN : AD.Nodup) (hA : ads ws = AD) {C : String} {b q0 ci : Nat} {T : u_T} {N0 : Nat} {fs : List Value} {host : String} {index : Nat} {y : MethodName} {bytes : ByteArray} {maxL n fr lo : Nat} {ret : Option FieldType} {v : Value} {As rest st0 : List Value} {wc wc' ws' : va_W} (hM : Wr l E y bytes maxL ret fr lo (.ref b :: As) wc wc' (some v)) (cw : va_CN R s args own index y host bytes maxL ret (Cond.code y bytes maxL ret :: LW) (rmk fr 0 0 lo) 0 0 n ∧ (Cond.instanceMethod y).before args s = true ∧ (Cond.selects C y y).before args s = true) (hob : ws[q0]? = some (b, .inr (ci, fs))) (hcl : vwCl[ci]? = some (C, T, N0)) (is : List Nat) (hC : is.map (fun i => ws[i]?) = wc.map some) (hnd : va_nd is = true) (hlen : wc'.length = wc.length) (hw : mrg is ws wc' = ws') (hn : As.length = n) (hsz : ls.size = nL) (hroom : (rest.map fun v => v.category).sum ≤ 8) (hd : decode cc pc = .ok (.invokevirtual index, 3)) (hst : st0 = As.reverse ++ .ref b :: rest) (k : V p l e R s m args below meth c E AD Q ws' (F0 m (pc + 3) ls (v :: rest))) : V p l e R s m args below meth c E AD Q ws (F0 m pc ls st0) := by
  intro H locs hP hz ho hl
  subst hst
  subst hw
  have hcA : ∀ q, q ∈ ads wc → q ∈ AD := fun q h => hA ▸ sub_ads hC q h
  have hr : va_Run p l e R s m args below meth c H locs 0 0 0 0 (F0 m pc ls (As.reverse ++ .ref b :: rest)) rest (WQ E wc wc' (some v) ((Value.ref b :: As)).toArray) (fun q => q ∈ ads wc) := va_runVN (As := As) (rest := rest) F hM cw ⟨PW.blind, va_recv hE.1 hP hcl hob, fun U hU hW => ⟨rfl, by rw [hU]; exact P_sub hP is hC, nodup_of (hA ▸ hN) is hC hnd, hE.at ho hcA hU hW⟩⟩ rfl hn hsz rfl (lv_room hroom) hd ⟨Nat.zero_le _, Nat.zero_le _⟩
  intro T hT X
  obtain ⟨v', st₀, t, T', L, h0, X', hL, e1, e2, ⟨hv, hp', hz', ho'⟩, stp⟩ := hr T hT X
  cases hv
  rw [h0] at hz' ho'
  obtain ⟨t2, a1, b1⟩ := k T'.heap (locs ++ L) (P_mrg hP (hA ▸ hN) is hC hlen (fun q hq => by rw [e1]; exact ho' q hq) (by rw [e1]; exact hp')) (by rw [e1, hz', hz]) (fun q hq => by rw [e1, ho' q (fun h => hq (hcA q h))]; exact ho q hq) (fun z hz => (List.mem_append.mp hz).elim (hl z) (fun h => hcA _ (hL z h))) T' rfl X'
  exact ⟨t2, stp t2 a1, b1⟩
theorem V.rdVNn (F : CallFix p m c cc nL s args LW own) (hE : CE E (fun q => q ∈ AD) s s.heap) {C : String} {b q0 ci : Nat} {T : u_T} {N0 : Nat} {fs : List Value} {host : String} {index : Nat} {y : MethodName} {bytes : ByteArray} {maxL n fr lo : Nat} {ret : Option FieldType} {As rest st0 : List Value} {wc : va_W} (hM : Rd l E y bytes maxL ret fr lo (.ref b :: As) wc none) (cw : va_CN R s args own index y host bytes maxL ret (Cond.code y bytes maxL ret :: LW) (rmk fr 0 0 lo) 0 0 n ∧ (Cond.instanceMethod y).before args s = true ∧ (Cond.selects C y y).before args s = true) (hob : ws[q0]? = some (b, .inr (ci, fs))) (hcl : vwCl[ci]? = some (C, T, N0)) (is : List Nat) (hC : is.map (fun i => ws[i]?) = wc.map some) (hn : As.length = n) (hsz : ls.size = nL) (hroom : (rest.map fun v => v.category).sum ≤ 8) (hd : decode cc pc = .ok (.invokevirtual index, 3)) (hst : st0 = As.reverse ++ .ref b :: rest) (k : V p l e R s m args below meth c E AD Q ws (F0 m (pc + 3) ls rest)) : V p l e R s m args below meth c E AD Q ws (F0 m pc ls st0) := by
  intro H locs hP hz ho hl
  subst hst
  have hr : va_Run p l e R s m args below meth c H locs 0 0 0 0 (F0 m pc ls (As.reverse ++ .ref b :: rest)) rest (RQ none ((Value.ref b :: As)).toArray) (fun _ => False) := va_runVN (As := As) (rest := rest) F hM cw ⟨PB.blind, va_recv hE.1 hP hcl hob, fun U hU hW => ⟨rfl, by rw [hU]; exact P_sub hP is hC, hE.at ho (fun _ h => h.elim) hU hW⟩⟩ rfl hn hsz rfl (lv_room hroom) hd ⟨Nat.zero_le _, Nat.zero_le _⟩
  intro T hT X
  obtain ⟨v', st₀, t, T', L, h0, X', hL, e1, e2, ⟨hv, hh⟩, stp⟩ := hr T hT X
  cases hv
  have hLn : L = [] := by
    cases L with
    | nil => rfl
    | cons a _ => exact (hL a List.mem_cons_self).elim
  subst hLn
  rw [List.append_nil] at X'
  obtain ⟨t2, a1, b1⟩ := k H locs hP hz ho hl T' (by rw [e1, hh, h0]) X'
  exact ⟨t2, stp t2 a1, b1⟩
theorem V.wrVNn (F : CallFix p m c cc nL s args LW own) (hE : CE E (fun q => q ∈ AD) s s.heap) (hN : AD.Nodup) (hA : ads ws = AD) {C : String} {b q0 ci : Nat} {T : u_T} {N0 : Nat} {fs : List Value} {host : String} {index : Nat} {y : MethodName} {bytes : ByteArray} {maxL n fr lo : Nat} {ret : Option FieldType} {As rest st0 : List Value} {wc wc' ws' : va_W} (hM : Wr l E y bytes maxL ret fr lo (.ref b :: As) wc wc' none) (cw : va_CN R s args own index y host bytes maxL ret (Cond.code y bytes maxL ret :: LW) (rmk fr 0 0 lo) 0 0 n ∧ (Cond.instanceMethod y).before args s = true ∧ (Cond.selects C y y).before args s = true) (hob : ws[q0]? = some (b, .inr (ci, fs))) (hcl : vwCl[ci]? = some (C, T, N0)) (is : List Nat) (hC : is.map (fun i => ws[i]?) = wc.map some) (hnd : va_nd is = true) (hlen : wc'.length = wc.length) (hw : mrg is ws wc' = ws') (hn : As.length = n) (hsz : ls.size = nL) (hroom : (rest.map fun v => v.category).sum ≤ 8) (hd : decode cc pc = .ok (.invokevirtual index, 3)) (hst : st0 = As.reverse ++ .ref b :: rest) (k : V p l e R s m args below meth c E AD Q ws' (F0 m (pc + 3) ls rest)) : V p l e R s m args below meth c E AD Q ws (F0 m pc ls st0) := by
  intro H locs hP hz ho hl
  subst hst
  subst hw
  have hcA : ∀ q, q ∈ ads wc → q ∈ AD := fun q h => hA ▸ sub_ads hC q h
  have hr : va_Run p l e R s m args below meth c H locs 0 0 0 0 (F0 m pc ls (As.reverse ++ .ref b :: rest)) rest (WQ E wc wc' none ((Value.ref b :: As)).toArray) (fun q => q ∈ ads wc) := va_runVN (As := As) (rest := rest) F hM cw ⟨PW.blind, va_recv hE.1 hP hcl hob, fun U hU hW => ⟨rfl, by rw [hU]; exact P_sub hP is hC, nodup_of (hA ▸ hN) is hC hnd, hE.at ho hcA hU hW⟩⟩ rfl hn hsz rfl (lv_room hroom) hd ⟨Nat.zero_le _, Nat.zero_le _⟩
  intro T hT X
  obtain ⟨v', st₀, t, T', L, h0, X', hL, e1, e2, ⟨hv, hp', hz', ho'⟩, stp⟩ := hr T hT X
  cases hv
  rw [h0] at hz' ho'
  obtain ⟨t2, a1, b1⟩ := k T'.heap (locs ++ L) (P_mrg hP (hA ▸ hN) is hC hlen (fun q hq => by rw [e1]; exact ho' q hq) (by rw [e1]; exact hp')) (by rw [e1, hz', hz]) (fun q hq => by rw [e1, ho' q (fun h => hq (hcA q h))]; exact ho q hq) (fun z hz => (List.mem_append.mp hz).elim (hl z) (fun h => hcA _ (hL z h))) T' rfl X'
  exact ⟨t2, stp t2 a1, b1⟩
theorem V.rdSN (F : CallFix p m c cc nL s args LW own) (hE : CE E (fun q => q ∈ AD) s s.heap) {host : String} {index : Nat} {y : MethodName} {bytes : ByteArray} {maxL n fr lo : Nat} {ret : Option FieldType} {v : Value} {As rest st0 : List Value} {wc : va_W} (hM : Rd l E y bytes maxL ret fr lo As wc (some v)) (cw : va_CN R s args own index y host bytes maxL ret (Cond.code y bytes maxL ret :: LW) (rmk fr 0 0 lo) 0 0 n ∧ (Cond.static y).before args s = true ∧ True) (is : List Nat) (hC : is.map (fun i => ws[i]?) = wc.map some) (hn : As.length = n) (hsz : ls.size = nL) (hroom : (rest.map fun v => v.category).sum ≤ 8) (hd : decode cc pc = .ok (.invokestatic index, 3)) (hst : st0 = As.reverse ++ rest) (k : V p l e R s m args below meth c E AD Q ws (F0 m (pc + 3) ls (v :: rest))) : V p l e R s m args below meth c E AD Q ws (F0 m pc ls st0) := by
  intro H locs hP hz ho hl
  subst hst
  have hr : va_Run p l e R s m args below meth c H locs 0 0 0 0 (F0 m pc ls (As.reverse ++ rest)) rest (RQ (some v) (As).toArray) (fun _ => False) := va_runSN (As := As) (rest := rest) F hM cw ⟨PB.blind, fun U hU hW => ⟨rfl, by rw [hU]; exact P_sub hP is hC, hE.at ho (fun _ h => h.elim) hU hW⟩⟩ rfl hn hsz rfl (lv_room hroom) hd ⟨Nat.zero_le _, Nat.zero_le _⟩
  intro T hT X
  obtain ⟨v', st₀, t, T', L, h0, X', hL, e1, e2, ⟨hv, hh⟩, stp⟩ := hr T hT X
  cases hv
  have hLn : L = [] := by
    cases L with
    | nil => rfl
    | cons a _ => exact (hL a List.mem_cons_self).elim
  subst hLn
  rw [List.append_nil] at X'
  obtain ⟨t2, a1, b1⟩ := k H locs hP hz ho hl T' (by rw [e1, hh, h0]) X'
  exact ⟨t2, stp t2 a1, b1⟩
theorem V.wrSN (F : CallFix p m c cc nL s args LW own) (hE : CE E (fun q => q ∈ AD) s s.heap) (hN : AD.Nodup) (hA : ads ws = AD) {host : String} {index : Nat} {y : MethodName} {bytes : ByteArray} {maxL n fr lo : Nat} {ret : Option FieldType} {v : Value} {As rest st0 : List Value} {wc wc' ws' : va_W} (hM : Wr l E y bytes maxL ret fr lo As wc wc' (some v)) (cw : va_CN R s args own index y host bytes maxL ret (Cond.code y bytes maxL ret :: LW) (rmk fr 0 0 lo) 0 0 n ∧ (Cond.static y).before args s = true ∧ True) (is : List Nat) (hC : is.map (fun i => ws[i]?) = wc.map some) (hnd : va_nd is = true) (hlen : wc'.length = wc.length) (hw : mrg is ws wc' = ws') (hn : As.length = n) (hsz : ls.size = nL) (hroom : (rest.map fun v => v.category).sum ≤ 8) (hd : decode cc pc = .ok (.invokestatic index, 3)) (hst : st0 = As.reverse ++ rest) (k : V p l e R s m args below meth c E AD Q ws' (F0 m (pc + 3) ls (v :: rest))) : V p l e R s m args below meth c E AD Q ws (F0 m pc ls st0) := by
  intro H locs hP hz ho hl
  subst hst
  subst hw
  have hcA : ∀ q, q ∈ ads wc → q ∈ AD := fun q h => hA ▸ sub_ads hC q h
  have hr : va_Run p l e R s m args below meth c H locs 0 0 0 0 (F0 m pc ls (As.reverse ++ rest)) rest (WQ E wc wc' (some v) (As).toArray) (fun q => q ∈ ads wc) := va_runSN (As := As) (rest := rest) F hM cw ⟨PW.blind, fun U hU hW => ⟨rfl, by rw [hU]; exact P_sub hP is hC, nodup_of (hA ▸ hN) is hC hnd, hE.at ho hcA hU hW⟩⟩ rfl hn hsz rfl (lv_room hroom) hd ⟨Nat.zero_le _, Nat.zero_le _⟩
  intro T hT X
  obtain ⟨v', st₀, t, T', L, h0, X', hL, e1, e2, ⟨hv, hp', hz', ho'⟩, stp⟩ := hr T hT X
  cases hv
  rw [h0] at hz' ho'
  obtain ⟨t2, a1, b1⟩ := k T'.heap (locs ++ L) (P_mrg hP (hA ▸ hN) is hC hlen (fun q hq => by rw [e1]; exact ho' q hq) (by rw [e1]; exact hp')) (by rw [e1, hz', hz]) (fun q hq => by rw [e1, ho' q (fun h => hq (hcA q h))]; exact ho q hq) (fun z hz => (List.mem_append.mp hz).elim (hl z) (fun h => hcA _ (hL z h))) T' rfl X'
  exact ⟨t2, stp t2 a1, b1⟩
theorem V.rdSNn (F : CallFix p m c cc nL s args LW own) (hE : CE E (fun q => q ∈ AD) s s.heap) {host : String} {index : Nat} {y : MethodName} {bytes : ByteArray} {maxL n fr lo : Nat} {ret : Option FieldType} {As rest st0 : List Value} {wc : va_W} (hM : Rd l E y bytes maxL ret fr lo As wc none) (cw : va_CN R s args own index y host bytes maxL ret (Cond.code y bytes maxL ret :: LW) (rmk fr 0 0 lo) 0 0 n ∧ (Cond.static y).before args s = true ∧ True) (is : List Nat) (hC : is.map (fun i => ws[i]?) = wc.map some) (hn : As.length = n) (hsz : ls.size = nL) (hroom : (rest.map fun v => v.category).sum ≤ 8) (hd : decode cc pc = .ok (.invokestatic index, 3)) (hst : st0 = As.reverse ++ rest) (k : V p l e R s m args below meth c E AD Q ws (F0 m (pc + 3) ls rest)) : V p l e R s m args below meth c E AD Q ws (F0 m pc ls st0) := by
  intro H locs hP hz ho hl
  subst hst
  have hr : va_Run p l e R s m args below meth c H locs 0 0 0 0 (F0 m pc ls (As.reverse ++ rest)) rest (RQ none (As).toArray) (fun _ => False) := va_runSN (As := As) (rest := rest) F hM cw ⟨PB.blind, fun U hU hW => ⟨rfl, by rw [hU]; exact P_sub hP is hC, hE.at ho (fun _ h => h.elim) hU hW⟩⟩ rfl hn hsz rfl (lv_room hroom) hd ⟨Nat.zero_le _, Nat.zero_le _⟩
  intro T hT X
  obtain ⟨v', st₀, t, T', L, h0, X', hL, e1, e2, ⟨hv, hh⟩, stp⟩ := hr T hT X
  cases hv
  have hLn : L = [] := by
    cases L with
    | nil => rfl
    | cons a _ => exact (hL a List.mem_cons_self).elim
  subst hLn
  rw [List.append_nil] at X'
  obtain ⟨t2, a1, b1⟩ := k H locs hP hz ho hl T' (by rw [e1, hh, h0]) X'
  exact ⟨t2, stp t2 a1, b1⟩
theorem V.wrSNn (F : CallFix p m c cc nL s args LW own) (hE : CE E (fun q => q ∈ AD) s s.heap) (hN : AD.Nodup) (hA : ads ws = AD) {host : String} {index : Nat} {y : MethodName} {bytes : ByteArray} {maxL n fr lo : Nat} {ret : Option FieldType} {As rest st0 : List Value} {wc wc' ws' : va_W} (hM : Wr l E y bytes maxL ret fr lo As wc wc' none) (cw : va_CN R s args own index y host bytes maxL ret (Cond.code y bytes maxL ret :: LW) (rmk fr 0 0 lo) 0 0 n ∧ (Cond.static y).before args s = true ∧ True) (is : List Nat) (hC : is.map (fun i => ws[i]?) = wc.map some) (hnd : va_nd is = true) (hlen : wc'.length = wc.length) (hw : mrg is ws wc' = ws') (hn : As.length = n) (hsz : ls.size = nL) (hroom : (rest.map fun v => v.category).sum ≤ 8) (hd : decode cc pc = .ok (.invokestatic index, 3)) (hst : st0 = As.reverse ++ rest) (k : V p l e R s m args below meth c E AD Q ws' (F0 m (pc + 3) ls rest)) : V p l e R s m args below meth c E AD Q ws (F0 m pc ls st0) := by
  intro H locs hP hz ho hl
  subst hst
  subst hw
  have hcA : ∀ q, q ∈ ads wc → q ∈ AD := fun q h => hA ▸ sub_ads hC q h
  have hr : va_Run p l e R s m args below meth c H locs 0 0 0 0 (F0 m pc ls (As.reverse ++ rest)) rest (WQ E wc wc' none (As).toArray) (fun q => q ∈ ads wc) := va_runSN (As := As) (rest := rest) F hM cw ⟨PW.blind, fun U hU hW => ⟨rfl, by rw [hU]; exact P_sub hP is hC, nodup_of (hA ▸ hN) is hC hnd, hE.at ho hcA hU hW⟩⟩ rfl hn hsz rfl (lv_room hroom) hd ⟨Nat.zero_le _, Nat.zero_le _⟩
  intro T hT X
  obtain ⟨v', st₀, t, T', L, h0, X', hL, e1, e2, ⟨hv, hp', hz', ho'⟩, stp⟩ := hr T hT X
  cases hv
  rw [h0] at hz' ho'
  obtain ⟨t2, a1, b1⟩ := k T'.heap (locs ++ L) (P_mrg hP (hA ▸ hN) is hC hlen (fun q hq => by rw [e1]; exact ho' q hq) (by rw [e1]; exact hp')) (by rw [e1, hz', hz]) (fun q hq => by rw [e1, ho' q (fun h => hq (hcA q h))]; exact ho q hq) (fun z hz => (List.mem_append.mp hz).elim (hl z) (fun h => hcA _ (hL z h))) T' rfl X'
  exact ⟨t2, stp t2 a1, b1⟩
theorem V.iretR (F : CallFix p m c cc nL s args LW own) (hr : meth.sig.returnType = some .int) (hk : meth.locks = false) {v v' : Int32} (hd : decode cc pc = .ok (.ireturn, 1)) (h : v' = v) : V p l e R s m args below meth c E [] (MQ below (RQ (some (.int v))) args s 0 0 (fun _ => False)) ws (F0 m pc ls [.int v']) := by
  intro H locs hP hz ho hl
  subst h
  have hH : H = s.heap := Array.ext_getElem? (fun q => ho q List.not_mem_nil)
  subst hH
  exact W.iret F.1 F.2.1 hr (fun t ht _ => ⟨rfl, ht⟩) (fun q hq => absurd (hl q hq) List.not_mem_nil) hd hk
theorem V.iretW (F : CallFix p m c cc nL s args LW own) (hr : meth.sig.returnType = some .int) (hk : meth.locks = false) {w0 w1 : va_W} {v v' : Int32} (hd : decode cc pc = .ok (.ireturn, 1)) (h : v' = v) (hw : ws = w1) : V p l e R s m args below meth c E (ads w0) (MQ below (WQ E w0 w1 (some (.int v))) args s 0 0 (fun q => q ∈ ads w0)) ws (F0 m pc ls [.int v']) := by
  intro H locs hP hz ho hl
  subst h
  subst hw
  exact W.iret F.1 F.2.1 hr (fun t ht _ => ⟨rfl, by rw [ht]; exact hP, by rw [ht]; exact hz, fun q hq => by rw [ht]; exact ho q hq⟩) hl hd hk
theorem V.lretR (F : CallFix p m c cc nL s args LW own) (hr : meth.sig.returnType = some .long) (hk : meth.locks = false) {v v' : Int64} (hd : decode cc pc = .ok (.lreturn, 1)) (h : v' = v) : V p l e R s m args below meth c E [] (MQ below (RQ (some (.long v))) args s 0 0 (fun _ => False)) ws (F0 m pc ls [.long v']) := by
  intro H locs hP hz ho hl
  subst h
  have hH : H = s.heap := Array.ext_getElem? (fun q => ho q List.not_mem_nil)
  subst hH
  exact W.lret F.1 F.2.1 hr (fun t ht _ => ⟨rfl, ht⟩) (fun q hq => absurd (hl q hq) List.not_mem_nil) hd hk
theorem V.lretW (F : CallFix p m c cc nL s args LW own) (hr : meth.sig.returnType = some .long) (hk : meth.locks = false) {w0 w1 : va_W} {v v' : Int64} (hd : decode cc pc = .ok (.lreturn, 1)) (h : v' = v) (hw : ws = w1) : V p l e R s m args below meth c E (ads w0) (MQ below (WQ E w0 w1 (some (.long v))) args s 0 0 (fun q => q ∈ ads w0)) ws (F0 m pc ls [.long v']) := by
  intro H locs hP hz ho hl
  subst h
  subst hw
  exact W.lret F.1 F.2.1 hr (fun t ht _ => ⟨rfl, by rw [ht]; exact hP, by rw [ht]; exact hz, fun q hq => by rw [ht]; exact ho q hq⟩) hl hd hk
theorem V.dretR (F : CallFix p m c cc nL s args LW own) (hr : meth.sig.returnType = some .double) (hk : meth.locks = false) {v v' : UInt64} (hd : decode cc pc = .ok (.dreturn, 1)) (h : v' = v) : V p l e R s m args below meth c E [] (MQ below (RQ (some (.double v))) args s 0 0 (fun _ => False)) ws (F0 m pc ls [.double v']) := by
  intro H locs hP hz ho hl
  subst h
  have hH : H = s.heap := Array.ext_getElem? (fun q => ho q List.not_mem_nil)
  subst hH
  exact W.dret F.1 F.2.1 hr (fun t ht _ => ⟨rfl, ht⟩) (fun q hq => absurd (hl q hq) List.not_mem_nil) hd hk
theorem V.dretW (F : CallFix p m c cc nL s args LW own) (hr : meth.sig.returnType = some .double) (hk : meth.locks = false) {w0 w1 : va_W} {v v' : UInt64} (hd : decode cc pc = .ok (.dreturn, 1)) (h : v' = v) (hw : ws = w1) : V p l e R s m args below meth c E (ads w0) (MQ below (WQ E w0 w1 (some (.double v))) args s 0 0 (fun q => q ∈ ads w0)) ws (F0 m pc ls [.double v']) := by
  intro H locs hP hz ho hl
  subst h
  subst hw
  exact W.dret F.1 F.2.1 hr (fun t ht _ => ⟨rfl, by rw [ht]; exact hP, by rw [ht]; exact hz, fun q hq => by rw [ht]; exact ho q hq⟩) hl hd hk
theorem V.zretR (F : CallFix p m c cc nL s args LW own) (hr : meth.sig.returnType = some .boolean) (hk : meth.locks = false) {v v' : Int32} (hd : decode cc pc = .ok (.ireturn, 1)) (hn : narrow .boolean (.int v) = .int v) (h : v' = v) : V p l e R s m args below meth c E [] (MQ below (RQ (some (.int v))) args s 0 0 (fun _ => False)) ws (F0 m pc ls [.int v']) := by
  intro H locs hP hz ho hl
  subst h
  have hH : H = s.heap := Array.ext_getElem? (fun q => ho q List.not_mem_nil)
  subst hH
  exact W.zret F.1 F.2.1 hr hn (fun t ht _ => ⟨rfl, ht⟩) (fun q hq => absurd (hl q hq) List.not_mem_nil) hd hk
theorem V.zretW (F : CallFix p m c cc nL s args LW own) (hr : meth.sig.returnType = some .boolean) (hk : meth.locks = false) {w0 w1 : va_W} {v v' : Int32} (hd : decode cc pc = .ok (.ireturn, 1)) (hn : narrow .boolean (.int v) = .int v) (h : v' = v) (hw : ws = w1) : V p l e R s m args below meth c E (ads w0) (MQ below (WQ E w0 w1 (some (.int v))) args s 0 0 (fun q => q ∈ ads w0)) ws (F0 m pc ls [.int v']) := by
  intro H locs hP hz ho hl
  subst h
  subst hw
  exact W.zret F.1 F.2.1 hr hn (fun t ht _ => ⟨rfl, by rw [ht]; exact hP, by rw [ht]; exact hz, fun q hq => by rw [ht]; exact ho q hq⟩) hl hd hk
theorem V.vretR (F : CallFix p m c cc nL s args LW own) (hr : meth.sig.returnType = none) (hk : meth.locks = false) (hd : decode cc pc = .ok (.return_, 1)) : V p l e R s m args below meth c E [] (MQ below (RQ none) args s 0 0 (fun _ => False)) ws (F0 m pc ls []) := by
  intro H locs hP hz ho hl
  have hH : H = s.heap := Array.ext_getElem? (fun q => ho q List.not_mem_nil)
  subst hH
  exact W.vret F.1 F.2.1 hr (fun t ht _ => ⟨rfl, ht⟩) (fun q hq => absurd (hl q hq) List.not_mem_nil) hd hk
theorem V.vretW (F : CallFix p m c cc nL s args LW own) (hr : meth.sig.returnType = none) (hk : meth.locks = false) {w0 w1 : va_W} (hd : decode cc pc = .ok (.return_, 1)) (hw : ws = w1) : V p l e R s m args below meth c E (ads w0) (MQ below (WQ E w0 w1 none) args s 0 0 (fun q => q ∈ ads w0)) ws (F0 m pc ls []) := by
  intro H locs hP hz ho hl
  subst hw
  exact W.vret F.1 F.2.1 hr (fun t ht _ => ⟨rfl, by rw [ht]; exact hP, by rw [ht]; exact hz, fun q hq => by rw [ht]; exact ho q hq⟩) hl hd hk
end VV
theorem Rd.mk0 {l : Launch} {E : EV} {y : MethodName} {cc : ByteArray} {maxL fr lo : Nat} {ret : Option FieldType} {av : List Value} {ws : va_W} {v : Option Value} (hy : plainName y.cls = true) (hlen : (lg_sl av).length ≤ maxL)
    (body : ∀ (p : Program) (e : Env) (s : State) (m : MethodId) (args : Array Value) (below : List Frame) (meth : Method) (c : Code), CallFix p m c cc maxL s args LW y.cls → meth.sig.returnType = ret → meth.locks = false → CE E (fun q => q ∈ ([] : List Nat)) s s.heap → ∀ ls, lv_has ls maxL (lv_args 0 av) → V p l e (rmk fr 0 0 lo) s m args below meth c E [] (MQ below (RQ v) args s 0 0 (fun _ => False)) ws (F0 m 0 ls [])) : Rd l E y cc maxL ret fr lo av ws v := by
  refine Met.ofW (cc := cc) (maxL := maxL) (ret := ret) hy rfl ?_
  intro p e s m args below meth c s₁ B hml hv
  obtain ⟨rfl, hP, hE⟩ := hv
  have hts := atoms_spec (ws := Cond.code y cc maxL ret :: LW) B.pre
  rw [lg_entry_eq]
  exact body p e s m _ below meth c ⟨B.exec, B.bytes, hml, findClass_of_methodNamed B.named, fun w h => hts w (List.mem_cons_of_mem _ h)⟩ B.returns B.notSynchronized (hE.tr (State.WarmedH.refl s) (fun _ _ _ => rfl) (fun q h => absurd h List.not_mem_nil)) _ (lv_entry av hlen) s.heap [] hP rfl (fun _ _ => rfl) (fun _ h => absurd h List.not_mem_nil)
theorem Wr.mk0 {l : Launch} {E : EV} {y : MethodName} {cc : ByteArray} {maxL fr lo : Nat} {ret : Option FieldType} {av : List Value} {w0 w1 : va_W} {v : Option Value} (hy : plainName y.cls = true) (hlen : (lg_sl av).length ≤ maxL)
    (body : ∀ (p : Program) (e : Env) (s : State) (m : MethodId) (args : Array Value) (below : List Frame) (meth : Method) (c : Code), CallFix p m c cc maxL s args LW y.cls → meth.sig.returnType = ret → meth.locks = false → CE E (fun q => q ∈ ads w0) s s.heap → (ads w0).Nodup → ∀ ls, lv_has ls maxL (lv_args 0 av) → V p l e (rmk fr 0 0 lo) s m args below meth c E (ads w0) (MQ below (WQ E w0 w1 v) args s 0 0 (fun q => q ∈ ads w0)) w0 (F0 m 0 ls [])) : Wr l E y cc maxL ret fr lo av w0 w1 v := by
  refine Met.ofW (cc := cc) (maxL := maxL) (ret := ret) hy rfl ?_
  intro p e s m args below meth c s₁ B hml hv
  obtain ⟨rfl, hP, hN, hE⟩ := hv
  have hts := atoms_spec (ws := Cond.code y cc maxL ret :: LW) B.pre
  rw [lg_entry_eq]
  exact body p e s m _ below meth c ⟨B.exec, B.bytes, hml, findClass_of_methodNamed B.named, fun w h => hts w (List.mem_cons_of_mem _ h)⟩ B.returns B.notSynchronized hE hN _ (lv_entry av hlen) s.heap [] hP rfl (fun _ _ => rfl) (fun _ h => absurd h List.not_mem_nil)
end
