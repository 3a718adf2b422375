section
-- ===== PART A: goes FIRST, ahead of the names: the tables' words, and 'selects' of the private methods out of them =====
/-- a private method of a class that the tables say can be made, by its rows of tables_1 -/
def lw_okq (q : MethodName × Nat) : Prop := (q.1.cls ≠ "java/lang/invoke/MethodHandle" ∧ q.1.cls ≠ "java/lang/invoke/VarHandle") ∧ Cond.instantiable q.1.cls q.2 ∈ tables_1 ∧ Cond.privateMethod q.1 ∈ tables_1 ∧ Cond.instanceMethod q.1 ∈ tables_1
theorem lw_p0 : lw_okq (⟨"java/lang/Throwable", "fillInStackTrace", "(I)Ljava/lang/Throwable;"⟩, 6) := ⟨⟨by decide +kernel, by decide +kernel⟩, List.mem_of_getElem? (i := 327) (by decide +kernel), List.mem_of_getElem? (i := 325) (by decide +kernel), List.mem_of_getElem? (i := 326) (by decide +kernel)⟩
theorem lw_p1 : lw_okq (⟨"Commutator$PointTable", "isFree", "(JII)Z"⟩, 3) := ⟨⟨by decide +kernel, by decide +kernel⟩, List.mem_of_getElem? (i := 32) (by decide +kernel), List.mem_of_getElem? (i := 359) (by decide +kernel), List.mem_of_getElem? (i := 360) (by decide +kernel)⟩
theorem lw_p2 : lw_okq (⟨"Commutator$PointTable", "use", "(JII)V"⟩, 3) := ⟨⟨by decide +kernel, by decide +kernel⟩, List.mem_of_getElem? (i := 32) (by decide +kernel), List.mem_of_getElem? (i := 363) (by decide +kernel), List.mem_of_getElem? (i := 364) (by decide +kernel)⟩
theorem lw_p3 : lw_okq (⟨"Commutator", "existingPoint", "(I)LCommutator$Point;"⟩, 6) := ⟨⟨by decide +kernel, by decide +kernel⟩, List.mem_of_getElem? (i := 24) (by decide +kernel), List.mem_of_getElem? (i := 435) (by decide +kernel), List.mem_of_getElem? (i := 436) (by decide +kernel)⟩
theorem lw_p4 : lw_okq (⟨"Commutator$Point", "signWeight", "()I"⟩, 10) := ⟨⟨by decide +kernel, by decide +kernel⟩, List.mem_of_getElem? (i := 366) (by decide +kernel), List.mem_of_getElem? (i := 469) (by decide +kernel), List.mem_of_getElem? (i := 470) (by decide +kernel)⟩
theorem lw_p5 : lw_okq (⟨"Commutator$Sender", "packSamples", "(LCommutator$PointTable;II)V"⟩, 2) := ⟨⟨by decide +kernel, by decide +kernel⟩, List.mem_of_getElem? (i := 71) (by decide +kernel), List.mem_of_getElem? (i := 489) (by decide +kernel), List.mem_of_getElem? (i := 490) (by decide +kernel)⟩
theorem lw_p6 : lw_okq (⟨"Commutator$Synchroniser", "isSyncWord", "()Z"⟩, 7) := ⟨⟨by decide +kernel, by decide +kernel⟩, List.mem_of_getElem? (i := 85) (by decide +kernel), List.mem_of_getElem? (i := 579) (by decide +kernel), List.mem_of_getElem? (i := 580) (by decide +kernel)⟩
theorem lw_p7 : lw_okq (⟨"Commutator$Synchroniser", "latestWord", "()I"⟩, 7) := ⟨⟨by decide +kernel, by decide +kernel⟩, List.mem_of_getElem? (i := 85) (by decide +kernel), List.mem_of_getElem? (i := 583) (by decide +kernel), List.mem_of_getElem? (i := 584) (by decide +kernel)⟩
theorem lw_p8 : lw_okq (⟨"Commutator$Synchroniser", "search", "()V"⟩, 7) := ⟨⟨by decide +kernel, by decide +kernel⟩, List.mem_of_getElem? (i := 85) (by decide +kernel), List.mem_of_getElem? (i := 587) (by decide +kernel), List.mem_of_getElem? (i := 588) (by decide +kernel)⟩
theorem lw_p9 : lw_okq (⟨"Commutator$Synchroniser", "judgeSyncWord", "()V"⟩, 7) := ⟨⟨by decide +kernel, by decide +kernel⟩, List.mem_of_getElem? (i := 85) (by decide +kernel), List.mem_of_getElem? (i := 591) (by decide +kernel), List.mem_of_getElem? (i := 592) (by decide +kernel)⟩
theorem lw_p10 : lw_okq (⟨"Commutator$Synchroniser", "check", "()V"⟩, 7) := ⟨⟨by decide +kernel, by decide +kernel⟩, List.mem_of_getElem? (i := 85) (by decide +kernel), List.mem_of_getElem? (i := 595) (by decide +kernel), List.mem_of_getElem? (i := 596) (by decide +kernel)⟩
theorem lw_p11 : lw_okq (⟨"Commutator$Synchroniser", "keepLock", "()V"⟩, 7) := ⟨⟨by decide +kernel, by decide +kernel⟩, List.mem_of_getElem? (i := 85) (by decide +kernel), List.mem_of_getElem? (i := 599) (by decide +kernel), List.mem_of_getElem? (i := 600) (by decide +kernel)⟩
theorem lw_p12 : lw_okq (⟨"Commutator$Decoder", "noteLost", "(ILCommutator$PointTable;)V"⟩, 5) := ⟨⟨by decide +kernel, by decide +kernel⟩, List.mem_of_getElem? (i := 116) (by decide +kernel), List.mem_of_getElem? (i := 613) (by decide +kernel), List.mem_of_getElem? (i := 614) (by decide +kernel)⟩
theorem lw_p13 : lw_okq (⟨"Commutator$Decoder", "giveSamples", "(JLCommutator$PointTable;)V"⟩, 5) := ⟨⟨by decide +kernel, by decide +kernel⟩, List.mem_of_getElem? (i := 116) (by decide +kernel), List.mem_of_getElem? (i := 624) (by decide +kernel), List.mem_of_getElem? (i := 625) (by decide +kernel)⟩
theorem lw_p14 : lw_okq (⟨"Commutator$DerivedTable", "needsOf", "(I)I"⟩, 1) := ⟨⟨by decide +kernel, by decide +kernel⟩, List.mem_of_getElem? (i := 142) (by decide +kernel), List.mem_of_getElem? (i := 715) (by decide +kernel), List.mem_of_getElem? (i := 716) (by decide +kernel)⟩
theorem lw_p15 : lw_okq (⟨"Commutator$DerivedTable", "at", "(I)LCommutator$Derived;"⟩, 1) := ⟨⟨by decide +kernel, by decide +kernel⟩, List.mem_of_getElem? (i := 142) (by decide +kernel), List.mem_of_getElem? (i := 723) (by decide +kernel), List.mem_of_getElem? (i := 724) (by decide +kernel)⟩
def lw_privs_1 : List (MethodName × Nat) := [(⟨"java/lang/Throwable", "fillInStackTrace", "(I)Ljava/lang/Throwable;"⟩, 6), (⟨"Commutator$PointTable", "isFree", "(JII)Z"⟩, 3), (⟨"Commutator$PointTable", "use", "(JII)V"⟩, 3), (⟨"Commutator", "existingPoint", "(I)LCommutator$Point;"⟩, 6), (⟨"Commutator$Point", "signWeight", "()I"⟩, 10), (⟨"Commutator$Sender", "packSamples", "(LCommutator$PointTable;II)V"⟩, 2), (⟨"Commutator$Synchroniser", "isSyncWord", "()Z"⟩, 7), (⟨"Commutator$Synchroniser", "latestWord", "()I"⟩, 7), (⟨"Commutator$Synchroniser", "search", "()V"⟩, 7), (⟨"Commutator$Synchroniser", "judgeSyncWord", "()V"⟩, 7), (⟨"Commutator$Synchroniser", "check", "()V"⟩, 7), (⟨"Commutator$Synchroniser", "keepLock", "()V"⟩, 7), (⟨"Commutator$Decoder", "noteLost", "(ILCommutator$PointTable;)V"⟩, 5), (⟨"Commutator$Decoder", "giveSamples", "(JLCommutator$PointTable;)V"⟩, 5), (⟨"Commutator$DerivedTable", "needsOf", "(I)I"⟩, 1), (⟨"Commutator$DerivedTable", "at", "(I)LCommutator$Derived;"⟩, 1)]
theorem lw_r1 : ∀ q ∈ lw_privs_1, lw_okq q := List.forall_mem_cons.mpr ⟨lw_p0, List.forall_mem_cons.mpr ⟨lw_p1, List.forall_mem_cons.mpr ⟨lw_p2, List.forall_mem_cons.mpr ⟨lw_p3, List.forall_mem_cons.mpr ⟨lw_p4, List.forall_mem_cons.mpr ⟨lw_p5, List.forall_mem_cons.mpr ⟨lw_p6, List.forall_mem_cons.mpr ⟨lw_p7, List.forall_mem_cons.mpr ⟨lw_p8, List.forall_mem_cons.mpr ⟨lw_p9, List.forall_mem_cons.mpr ⟨lw_p10, List.forall_mem_cons.mpr ⟨lw_p11, List.forall_mem_cons.mpr ⟨lw_p12, List.forall_mem_cons.mpr ⟨lw_p13, List.forall_mem_cons.mpr ⟨lw_p14, List.forall_mem_cons.mpr ⟨lw_p15, fun _ h => absurd h List.not_mem_nil⟩⟩⟩⟩⟩⟩⟩⟩⟩⟩⟩⟩⟩⟩⟩⟩
theorem lw_p16 : lw_okq (⟨"Commutator", "resultOf", "(I)LCommutator$Reading;"⟩, 6) := ⟨⟨by decide +kernel, by decide +kernel⟩, List.mem_of_getElem? (i := 24) (by decide +kernel), List.mem_of_getElem? (i := 734) (by decide +kernel), List.mem_of_getElem? (i := 735) (by decide +kernel)⟩
theorem lw_p17 : lw_okq (⟨"Commutator$DerivedTable", "computeOne", "(LCommutator$Derived;LCommutator$PointTable;)V"⟩, 1) := ⟨⟨by decide +kernel, by decide +kernel⟩, List.mem_of_getElem? (i := 142) (by decide +kernel), List.mem_of_getElem? (i := 746) (by decide +kernel), List.mem_of_getElem? (i := 747) (by decide +kernel)⟩
theorem lw_p18 : lw_okq (⟨"Commutator$DerivedTable", "operand", "(ILCommutator$PointTable;)LCommutator$Reading;"⟩, 1) := ⟨⟨by decide +kernel, by decide +kernel⟩, List.mem_of_getElem? (i := 142) (by decide +kernel), List.mem_of_getElem? (i := 750) (by decide +kernel), List.mem_of_getElem? (i := 751) (by decide +kernel)⟩
theorem lw_p19 : lw_okq (⟨"Commutator$Derived", "operate", "(JJ)J"⟩, 5) := ⟨⟨by decide +kernel, by decide +kernel⟩, List.mem_of_getElem? (i := 149) (by decide +kernel), List.mem_of_getElem? (i := 761) (by decide +kernel), List.mem_of_getElem? (i := 762) (by decide +kernel)⟩
theorem lw_p20 : lw_okq (⟨"CommutatorModel", "firstPlace", "(III)I"⟩, 35) := ⟨⟨by decide +kernel, by decide +kernel⟩, List.mem_of_getElem? (i := 789) (by decide +kernel), List.mem_of_getElem? (i := 913) (by decide +kernel), List.mem_of_getElem? (i := 914) (by decide +kernel)⟩
theorem lw_p21 : lw_okq (⟨"CommutatorModel", "isFree", "(IIIII)Z"⟩, 35) := ⟨⟨by decide +kernel, by decide +kernel⟩, List.mem_of_getElem? (i := 789) (by decide +kernel), List.mem_of_getElem? (i := 917) (by decide +kernel), List.mem_of_getElem? (i := 918) (by decide +kernel)⟩
theorem lw_p22 : lw_okq (⟨"CommutatorModel", "userOf", "(II)I"⟩, 35) := ⟨⟨by decide +kernel, by decide +kernel⟩, List.mem_of_getElem? (i := 789) (by decide +kernel), List.mem_of_getElem? (i := 921) (by decide +kernel), List.mem_of_getElem? (i := 922) (by decide +kernel)⟩
theorem lw_p23 : lw_okq (⟨"CommutatorModel", "isSent", "(II)Z"⟩, 35) := ⟨⟨by decide +kernel, by decide +kernel⟩, List.mem_of_getElem? (i := 789) (by decide +kernel), List.mem_of_getElem? (i := 925) (by decide +kernel), List.mem_of_getElem? (i := 926) (by decide +kernel)⟩
theorem lw_p24 : lw_okq (⟨"CommutatorModel", "can", "(I)Z"⟩, 35) := ⟨⟨by decide +kernel, by decide +kernel⟩, List.mem_of_getElem? (i := 789) (by decide +kernel), List.mem_of_getElem? (i := 929) (by decide +kernel), List.mem_of_getElem? (i := 930) (by decide +kernel)⟩
theorem lw_p25 : lw_okq (⟨"CommutatorModel", "isPoint", "(I)Z"⟩, 35) := ⟨⟨by decide +kernel, by decide +kernel⟩, List.mem_of_getElem? (i := 789) (by decide +kernel), List.mem_of_getElem? (i := 941) (by decide +kernel), List.mem_of_getElem? (i := 942) (by decide +kernel)⟩
theorem lw_p26 : lw_okq (⟨"CommutatorModel", "sendWord", "()V"⟩, 35) := ⟨⟨by decide +kernel, by decide +kernel⟩, List.mem_of_getElem? (i := 789) (by decide +kernel), List.mem_of_getElem? (i := 957) (by decide +kernel), List.mem_of_getElem? (i := 958) (by decide +kernel)⟩
theorem lw_p27 : lw_okq (⟨"CommutatorModel", "coded", "(II)I"⟩, 35) := ⟨⟨by decide +kernel, by decide +kernel⟩, List.mem_of_getElem? (i := 789) (by decide +kernel), List.mem_of_getElem? (i := 961) (by decide +kernel), List.mem_of_getElem? (i := 962) (by decide +kernel)⟩
theorem lw_p28 : lw_okq (⟨"CommutatorModel", "isBit", "(I)Z"⟩, 35) := ⟨⟨by decide +kernel, by decide +kernel⟩, List.mem_of_getElem? (i := 789) (by decide +kernel), List.mem_of_getElem? (i := 977) (by decide +kernel), List.mem_of_getElem? (i := 978) (by decide +kernel)⟩
theorem lw_p29 : lw_okq (⟨"CommutatorModel", "drop", "(II)V"⟩, 35) := ⟨⟨by decide +kernel, by decide +kernel⟩, List.mem_of_getElem? (i := 789) (by decide +kernel), List.mem_of_getElem? (i := 989) (by decide +kernel), List.mem_of_getElem? (i := 990) (by decide +kernel)⟩
theorem lw_p30 : lw_okq (⟨"CommutatorModel", "takes", "(I)I"⟩, 35) := ⟨⟨by decide +kernel, by decide +kernel⟩, List.mem_of_getElem? (i := 789) (by decide +kernel), List.mem_of_getElem? (i := 997) (by decide +kernel), List.mem_of_getElem? (i := 998) (by decide +kernel)⟩
theorem lw_p31 : lw_okq (⟨"CommutatorModel", "bits", "(II)I"⟩, 35) := ⟨⟨by decide +kernel, by decide +kernel⟩, List.mem_of_getElem? (i := 789) (by decide +kernel), List.mem_of_getElem? (i := 1001) (by decide +kernel), List.mem_of_getElem? (i := 1002) (by decide +kernel)⟩
def lw_privs_2 : List (MethodName × Nat) := [(⟨"Commutator", "resultOf", "(I)LCommutator$Reading;"⟩, 6), (⟨"Commutator$DerivedTable", "computeOne", "(LCommutator$Derived;LCommutator$PointTable;)V"⟩, 1), (⟨"Commutator$DerivedTable", "operand", "(ILCommutator$PointTable;)LCommutator$Reading;"⟩, 1), (⟨"Commutator$Derived", "operate", "(JJ)J"⟩, 5), (⟨"CommutatorModel", "firstPlace", "(III)I"⟩, 35), (⟨"CommutatorModel", "isFree", "(IIIII)Z"⟩, 35), (⟨"CommutatorModel", "userOf", "(II)I"⟩, 35), (⟨"CommutatorModel", "isSent", "(II)Z"⟩, 35), (⟨"CommutatorModel", "can", "(I)Z"⟩, 35), (⟨"CommutatorModel", "isPoint", "(I)Z"⟩, 35), (⟨"CommutatorModel", "sendWord", "()V"⟩, 35), (⟨"CommutatorModel", "coded", "(II)I"⟩, 35), (⟨"CommutatorModel", "isBit", "(I)Z"⟩, 35), (⟨"CommutatorModel", "drop", "(II)V"⟩, 35), (⟨"CommutatorModel", "takes", "(I)I"⟩, 35), (⟨"CommutatorModel", "bits", "(II)I"⟩, 35)]
theorem lw_r2 : ∀ q ∈ lw_privs_2, lw_okq q := List.forall_mem_cons.mpr ⟨lw_p16, List.forall_mem_cons.mpr ⟨lw_p17, List.forall_mem_cons.mpr ⟨lw_p18, List.forall_mem_cons.mpr ⟨lw_p19, List.forall_mem_cons.mpr ⟨lw_p20, List.forall_mem_cons.mpr ⟨lw_p21, List.forall_mem_cons.mpr ⟨lw_p22, List.forall_mem_cons.mpr ⟨lw_p23, List.forall_mem_cons.mpr ⟨lw_p24, List.forall_mem_cons.mpr ⟨lw_p25, List.forall_mem_cons.mpr ⟨lw_p26, List.forall_mem_cons.mpr ⟨lw_p27, List.forall_mem_cons.mpr ⟨lw_p28, List.forall_mem_cons.mpr ⟨lw_p29, List.forall_mem_cons.mpr ⟨lw_p30, List.forall_mem_cons.mpr ⟨lw_p31, fun _ h => absurd h List.not_mem_nil⟩⟩⟩⟩⟩⟩⟩⟩⟩⟩⟩⟩⟩⟩⟩⟩
theorem lw_p32 : lw_okq (⟨"CommutatorModel", "compares", "()V"⟩, 35) := ⟨⟨by decide +kernel, by decide +kernel⟩, List.mem_of_getElem? (i := 789) (by decide +kernel), List.mem_of_getElem? (i := 1005) (by decide +kernel), List.mem_of_getElem? (i := 1006) (by decide +kernel)⟩
theorem lw_p33 : lw_okq (⟨"CommutatorModel", "decodes", "()I"⟩, 35) := ⟨⟨by decide +kernel, by decide +kernel⟩, List.mem_of_getElem? (i := 789) (by decide +kernel), List.mem_of_getElem? (i := 1009) (by decide +kernel), List.mem_of_getElem? (i := 1010) (by decide +kernel)⟩
theorem lw_p34 : lw_okq (⟨"CommutatorModel", "sample", "(II)V"⟩, 35) := ⟨⟨by decide +kernel, by decide +kernel⟩, List.mem_of_getElem? (i := 789) (by decide +kernel), List.mem_of_getElem? (i := 1013) (by decide +kernel), List.mem_of_getElem? (i := 1014) (by decide +kernel)⟩
theorem lw_p35 : lw_okq (⟨"CommutatorModel", "read", "(II)I"⟩, 35) := ⟨⟨by decide +kernel, by decide +kernel⟩, List.mem_of_getElem? (i := 789) (by decide +kernel), List.mem_of_getElem? (i := 1017) (by decide +kernel), List.mem_of_getElem? (i := 1018) (by decide +kernel)⟩
theorem lw_p36 : lw_okq (⟨"CommutatorModel", "hasSample", "(I)Z"⟩, 35) := ⟨⟨by decide +kernel, by decide +kernel⟩, List.mem_of_getElem? (i := 789) (by decide +kernel), List.mem_of_getElem? (i := 1049) (by decide +kernel), List.mem_of_getElem? (i := 1050) (by decide +kernel)⟩
theorem lw_p37 : lw_okq (⟨"CommutatorModel", "comesTo", "(III)Z"⟩, 35) := ⟨⟨by decide +kernel, by decide +kernel⟩, List.mem_of_getElem? (i := 789) (by decide +kernel), List.mem_of_getElem? (i := 1072) (by decide +kernel), List.mem_of_getElem? (i := 1073) (by decide +kernel)⟩
theorem lw_p38 : lw_okq (⟨"CommutatorModel", "isDerived", "(I)Z"⟩, 35) := ⟨⟨by decide +kernel, by decide +kernel⟩, List.mem_of_getElem? (i := 789) (by decide +kernel), List.mem_of_getElem? (i := 1080) (by decide +kernel), List.mem_of_getElem? (i := 1081) (by decide +kernel)⟩
theorem lw_p39 : lw_okq (⟨"CommutatorModel", "derives", "()V"⟩, 35) := ⟨⟨by decide +kernel, by decide +kernel⟩, List.mem_of_getElem? (i := 789) (by decide +kernel), List.mem_of_getElem? (i := 1084) (by decide +kernel), List.mem_of_getElem? (i := 1085) (by decide +kernel)⟩
theorem lw_p40 : lw_okq (⟨"CommutatorModel", "hasValue", "(I)Z"⟩, 35) := ⟨⟨by decide +kernel, by decide +kernel⟩, List.mem_of_getElem? (i := 789) (by decide +kernel), List.mem_of_getElem? (i := 1088) (by decide +kernel), List.mem_of_getElem? (i := 1089) (by decide +kernel)⟩
theorem lw_p41 : lw_okq (⟨"CommutatorModel", "valueOf", "(I)I"⟩, 35) := ⟨⟨by decide +kernel, by decide +kernel⟩, List.mem_of_getElem? (i := 789) (by decide +kernel), List.mem_of_getElem? (i := 1092) (by decide +kernel), List.mem_of_getElem? (i := 1093) (by decide +kernel)⟩
theorem lw_p42 : lw_okq (⟨"CommutatorModel", "timeOf", "(I)I"⟩, 35) := ⟨⟨by decide +kernel, by decide +kernel⟩, List.mem_of_getElem? (i := 789) (by decide +kernel), List.mem_of_getElem? (i := 1101) (by decide +kernel), List.mem_of_getElem? (i := 1102) (by decide +kernel)⟩
theorem lw_p43 : lw_okq (⟨"CommutatorModel", "matchesAt", "(I)I"⟩, 35) := ⟨⟨by decide +kernel, by decide +kernel⟩, List.mem_of_getElem? (i := 789) (by decide +kernel), List.mem_of_getElem? (i := 1113) (by decide +kernel), List.mem_of_getElem? (i := 1114) (by decide +kernel)⟩
def lw_privs_3 : List (MethodName × Nat) := [(⟨"CommutatorModel", "compares", "()V"⟩, 35), (⟨"CommutatorModel", "decodes", "()I"⟩, 35), (⟨"CommutatorModel", "sample", "(II)V"⟩, 35), (⟨"CommutatorModel", "read", "(II)I"⟩, 35), (⟨"CommutatorModel", "hasSample", "(I)Z"⟩, 35), (⟨"CommutatorModel", "comesTo", "(III)Z"⟩, 35), (⟨"CommutatorModel", "isDerived", "(I)Z"⟩, 35), (⟨"CommutatorModel", "derives", "()V"⟩, 35), (⟨"CommutatorModel", "hasValue", "(I)Z"⟩, 35), (⟨"CommutatorModel", "valueOf", "(I)I"⟩, 35), (⟨"CommutatorModel", "timeOf", "(I)I"⟩, 35), (⟨"CommutatorModel", "matchesAt", "(I)I"⟩, 35)]
theorem lw_r3 : ∀ q ∈ lw_privs_3, lw_okq q := List.forall_mem_cons.mpr ⟨lw_p32, List.forall_mem_cons.mpr ⟨lw_p33, List.forall_mem_cons.mpr ⟨lw_p34, List.forall_mem_cons.mpr ⟨lw_p35, List.forall_mem_cons.mpr ⟨lw_p36, List.forall_mem_cons.mpr ⟨lw_p37, List.forall_mem_cons.mpr ⟨lw_p38, List.forall_mem_cons.mpr ⟨lw_p39, List.forall_mem_cons.mpr ⟨lw_p40, List.forall_mem_cons.mpr ⟨lw_p41, List.forall_mem_cons.mpr ⟨lw_p42, List.forall_mem_cons.mpr ⟨lw_p43, fun _ h => absurd h List.not_mem_nil⟩⟩⟩⟩⟩⟩⟩⟩⟩⟩⟩⟩
def lw_privs : List (MethodName × Nat) := lw_privs_1 ++ (lw_privs_2 ++ (lw_privs_3))
def lw_tbl : List Cond := k2_sels lw_privs ++ tables_1
theorem lw_privs_ok : ∀ q ∈ lw_privs, lw_okq q := by
  show ∀ q ∈ lw_privs_1 ++ (lw_privs_2 ++ (lw_privs_3)), lw_okq q
  exact List.forall_mem_append.mpr ⟨lw_r1, List.forall_mem_append.mpr ⟨lw_r2, lw_r3⟩⟩
end
section
/-! ===== BEGIN words of one list among another's, by their places ===== -/
theorem goodIn_r {big : List Cond} (ws : List Cond) (ps : List Nat) (hp : ws = ps.filterMap (fun i => big[i]?)) (h : ws.all goodWord = true) : GoodIn big ws := by
  intro w hw
  have h1 := List.all_eq_true.mp h w hw
  rw [hp] at hw
  obtain ⟨i, -, hi⟩ := List.mem_filterMap.mp hw
  have hm : w ∈ big := by first | exact List.mem_of_getElem? hi | exact List.getElem?_mem hi
  exact ⟨hm, good_of_word h1⟩
theorem goodIn_app {big a b : List Cond} (ha : GoodIn big a) (hb : GoodIn big b) : GoodIn big (a ++ b) := fun w h => (List.mem_append.mp h).elim (ha w) (hb w)
theorem goodIn_ca {big a b : List Cond} {c : Cond} (ha : GoodIn big (c :: a)) (hb : GoodIn big b) : GoodIn big (c :: (a ++ b)) := fun w h => (List.mem_cons.mp h).elim (fun e => ha w (List.mem_cons.mpr (Or.inl e))) (fun h => (List.mem_append.mp h).elim (fun h => ha w (List.mem_cons.mpr (Or.inr h))) (hb w))
theorem goodIn_sub {big ws : List Cond} (hm : ∀ w ∈ ws, w ∈ big) (h : ws.all goodWord = true) : GoodIn big ws := fun w hw => ⟨hm w hw, good_of_word (List.all_eq_true.mp h w hw)⟩
/-! ===== END ===== -/

/-! ===== BEGIN exceptions that leave a method, and their catching by the caller (launches without stack traces) ===== -/
section VXA
/-! The laws vx_back, vx_callV, vx_callS, vx_callSW, vx_throw0, vx_throwS follow proofs of the library, with one case more: JvmDerived/Free/Laws.lean (Back.of_free), Shelf42/LK1.lean (callV, callS), Shelf/KitTraced.lean (throwNew0V, throwNewS). -/
/-- where a method has thrown q: the class by its name, the cell, what was written, the world -/
def vx_T (XC : String → State → State → Prop) (st : State) (q : Addr) (t : State) (mc ms : Nat) (free : Addr → Prop) : Prop :=
  ∃ (E : String) (ce : Cell) (L : List Loc), XC E st t ∧ t.heap[q]? = some ce ∧ ce.vm = .none ∧ st.vm.findClass E = some ce.cls ∧ st.WarmedH t.vm ∧ st.sameButNew ({ t with vm := st.vm } : State) L mc ms ∧ ∀ z ∈ L, free z.base
def vx_Q (Qc : Array Value → State → Outcome → State → Prop) (XC : String → State → State → Prop) (mc ms : Nat) (free : Addr → Prop) : Array Value → State → Outcome → State → Prop := fun a st o t =>
  (Qc a st o t ∧ ∃ L, FrameEnd st o t L mc ms ∧ ∀ q ∈ L, free q.base) ∨ ∃ q, o = .threw q ∧ vx_T XC st q t mc ms free
/-- a callee that returns or throws -/
def vx_Met (l : Launch) (y : MethodName) (ws : List Cond) (rm : Room) (Pc : Array Value → State → Prop) (Qc : Array Value → State → Outcome → State → Prop) (XC : String → State → State → Prop) (mc ms : Nat) (free : Addr → Prop) : Prop :=
  MetFree l y (headSpec ws rm) Pc (fun _ _ _ _ _ => True) (vx_Q Qc XC mc ms free)
def vx_Post (XC : String → State → State → Prop) (mc ms : Nat) (free : Addr → Prop) : Pt → Array Value → Addr → Pt → Prop := fun A a q B =>
  ∃ (g : JFrame) (mk : MethodId) (t : State) (L : List Loc) (E : String) (ce : Cell), B.U.heap = t.heap ∧ B.U.vm = t.vm ∧ XC E (A.U.calling g mk a) t ∧ t.heap[q]? = some ce ∧ ce.vm = .none ∧ A.U.vm.findClass E = some ce.cls ∧ B.locs = A.locs ++ L ∧ (∀ z ∈ L, free z.base) ∧ B.cells = A.cells + mc ∧ B.slots = A.slots + ms
def vx_Back (l : Launch) (R : Room) (p : Program) (e : Env) (below : List Frame) (s : State) (sargs : Array Value) (y : MethodName) (len W9 : Nat)
    (Pre : Pt → Array Value → Prop) (Post : Pt → Array Value → Option Value → Pt → Prop) (PostX : Pt → Array Value → Addr → Pt → Prop) : Prop :=
  ∀ (m : MethodId) (meth : Method) (c : Code) (A : Pt) (g : JFrame) (ig : Instr) (mk : MethodId) (a : Array Value),
    Stand p l e R s m sargs below meth c A.U A.locs A.cells A.slots → g.method = m → g.locals.size = c.maxLocals → decode c.code g.pc = .ok (ig, len) →
    2 * g.monitorRoom + (g.stack.map fun v => v.category).sum ≤ W9 → A.U.methodNamed? y = some mk → Pre A a →
    (∃ (v : Option Value) (B : Pt), Stand p l e R s m sargs below meth c B.U B.locs B.cells B.slots ∧ Post A a v B ∧
      Steps p.tables e below (doInvoke e (A.U.setTop g) [] mk a).1 (B.U.setTop { g with pc := g.pc + len, stack := v.toList ++ g.stack })) ∨
    (∃ (q : Addr) (B : Pt), Stand p l e R s m sargs below meth c B.U B.locs B.cells B.slots ∧ PostX A a q B ∧
      Steps p.tables e below (doInvoke e (A.U.setTop g) [] mk a).1 ((B.U.setTop g).pushFrame (.throwing q)))
section Payer
variable {l : Launch} {R : Room} {p : Program} {e : Env} {below : List Frame} {s : State} {sargs : Array Value} {y : MethodName} {len W9 : Nat}
theorem vx_back {ws : List Cond} {rm : Room} {Pc : Array Value → State → Prop} {Qc : Array Value → State → Outcome → State → Prop} {XC : String → State → State → Prop} {mc ms : Nat} {free : Addr → Prop} {bytes : ByteArray} {maxL : Nat} {ret : Option FieldType}
    (hM : vx_Met l y ws rm Pc Qc XC mc ms free) (hblind : FrameBlind Pc) (hrc : rm.cells = mc) (hrs : rm.slots = ms)
    (hframes : rm.frames + 1 ≤ R.frames) (hlocals : W9 + (maxL + 11) + rm.locals ≤ R.locals)
    (hws : ∀ w ∈ ws, ∀ a' U, s.WarmedH U.vm → w.before a' U = true) (hcode : Cond.code y bytes maxL ret ∈ ws) (hinit : ∀ a' U, s.WarmedH U.vm → (Cond.initialized y.cls).before a' U = true) :
    vx_Back l R p e below s sargs y len W9 (PreOf R mc ms Pc) (PostOf Qc mc ms free) (vx_Post XC mc ms free) := by
  intro m meth c A g ig mk a X hg hsize hdg hW hn hp
  have h1 : (headSpec ws rm).pre.before a A.U = true := atoms_intro fun w hw => hws w hw _ _ X.warmed
  have h2 : (Cond.code y bytes maxL ret).before a A.U = true := hws _ hcode _ _ X.warmed
  have h3 : (Cond.initialized y.cls).before a A.U = true := hinit _ _ X.warmed
  have h4 : A.cells + (headSpec ws rm).room.cells ≤ R.cells := by rw [show (headSpec ws rm).room.cells = mc from hrc]; exact hp.1
  have h5 : A.slots + (headSpec ws rm).room.slots ≤ R.slots := by rw [show (headSpec ws rm).room.slots = ms from hrs]; exact hp.2.1
  have hPc : Pc a (A.U.calling g mk a) := hblind _ _ _ _ hp.2.2
  obtain ⟨U, Ls, c0, s0⟩ := A
  dsimp only [Pt.U, Pt.locs, Pt.cells, Pt.slots] at h1 h2 h3 h4 h5 X hn hPc ⊢
  obtain ⟨methY, cY, hmY, hcY, -, hlY, -, -, -, -⟩ := Cond.code_spec hn h2
  obtain ⟨kY, hkY, -⟩ := className_of_methodNamed hn
  have hinitY : kY.init = .initialized := Cond.initialized_spec (findClass_of_methodNamed hn) hkY h3
  have h : At U g.method c below := by rw [hg]; exact X.here
  have hlocals9 : W9 + (maxL + 11) + (headSpec ws rm).room.locals ≤ R.locals := hlocals
  have happ : (headSpec ws rm).appliesLoose y e.platform (U.calling g mk a) = true :=
    Spec.appliesLoose_calling (g := g) h hdg hn hkY hinitY
      (X.room_calling (g := g) (R' := (headSpec ws rm).room) hsize hmY hcY hframes (by rw [hlY]; omega) h4 h5) h1
  obtain ⟨mid, hmid⟩ := h.above
  have hfr : (U.setTop g).frames = (.java g :: mid) ++ below := by rw [State.frames_setTop' g h.top, hmid]; rfl
  obtain ⟨o, s₂, hsteps, -, hend, hq⟩ := Steps.callFree hM p X.admits X.cas X.clock (acts := []) hfr happ hPc trivial
  have hq' : vx_Q Qc XC mc ms free a (U.calling g mk a) o s₂ := hq
  rw [State.frames_setTop' g h.top] at hend
  obtain ⟨g₀, hg0⟩ := Option.isSome_iff_exists.mp h.top
  obtain ⟨r, hr⟩ := State.topJava?_eq_some.mp hg0
  have hr' : (({ U with heap := s₂.heap, slotsUsed := s₂.slotsUsed } : State).setVm s₂.vm).frames = .java g₀ :: r := hr
  rcases hq' with ⟨hqc, L, hfe, hL⟩ | ⟨q, rfl, E, ce, L, hx, hce, hcv, hcl, hW₂, hsm, hL⟩
  · obtain ⟨⟨v, rfl⟩, hW₂, e2, q2, q3, q4, q5, q6⟩ := id hfe
    have e3 : s₂ = ({ (U.calling g mk a).setFrames s₂.frames with heap := s₂.heap, slotsUsed := s₂.slotsUsed } : State).setVm s₂.vm := by
      have : s₂ = ({ s₂ with vm := (U.calling g mk a).vm } : State).setVm s₂.vm := rfl
      rw [e2] at this
      exact this
    obtain ⟨c₂, i₂, len₂, hc₂, hd₂, hf₂⟩ := hend
    have hW' : U.WarmedH s₂.vm := hW₂
    have hcc : c₂ = c := by
      have h1 : s₂.code? g.method = U.code? g.method := by
        rw [State.code?_eq, State.code?_eq, hW'.alike.method?]
      exact Option.some.inj (hc₂.symm.trans (h1.trans h.code))
    subst hcc
    have hlen : len₂ = len := by rw [hdg] at hd₂; cases hd₂; rfl
    subst hlen
    have hs₂ : s₂ = (({ U with heap := s₂.heap, slotsUsed := s₂.slotsUsed } : State).setVm s₂.vm).setTop { g with pc := g.pc + len₂, stack := v.toList ++ g.stack } := by
      refine e3.trans ?_
      rw [hf₂, State.calling_eq h.top, State.setFrames_setFrames, State.setTop_of_frames _ hr', hr]
      rfl
    have hsame : U.sameButNew ({ U with heap := s₂.heap, slotsUsed := s₂.slotsUsed } : State) L mc ms := by
      refine ⟨?_, q2, q3, q4, q5, q6⟩
      obtain ⟨t, ht, -⟩ := State.frames_cons hr
      show ({ U with heap := s₂.heap, slotsUsed := s₂.slotsUsed } : State) = { U.setFrames U.frames with heap := s₂.heap, slotsUsed := s₂.slotsUsed }
      rw [State.setFrames_self ht]
    subst hg
    refine Or.inl ⟨v, ⟨(({ U with heap := s₂.heap, slotsUsed := s₂.slotsUsed } : State).setVm s₂.vm), Ls ++ L, c0 + mc, s0 + ms⟩,
      ⟨X.admits, X.cas, X.clock, X.frames, X.room, X.hears, X.method, X.code, (X.here.setHeapUsed s₂.heap s₂.slotsUsed).setVm hW'.alike, X.tail, State.WarmedH.trans X.warmed hW', X.limits, X.bytes, X.same.trans (hsame.setVm s.vm)⟩,
      ⟨g, mk, s₂, L, rfl, rfl, hqc, rfl, hL, rfl, rfl⟩, ?_⟩
    show Steps p.tables e below _ ((({ U with heap := s₂.heap, slotsUsed := s₂.slotsUsed } : State).setVm s₂.vm).setTop { g with pc := g.pc + len₂, stack := v.toList ++ g.stack })
    rw [← hs₂]
    exact hsteps
  · obtain ⟨e2, q2, q3, q4, q5, q6⟩ := id hsm
    have e3 : s₂ = ({ (U.calling g mk a).setFrames s₂.frames with heap := s₂.heap, slotsUsed := s₂.slotsUsed } : State).setVm s₂.vm := by
      have : s₂ = ({ s₂ with vm := (U.calling g mk a).vm } : State).setVm s₂.vm := rfl
      rw [e2] at this
      exact this
    have hf₂ : s₂.frames = .throwing q :: .java g :: U.frames.tail := hend
    have hW' : U.WarmedH s₂.vm := hW₂
    have hs₂ : s₂ = ((({ U with heap := s₂.heap, slotsUsed := s₂.slotsUsed } : State).setVm s₂.vm).setTop g).pushFrame (.throwing q) := by
      refine e3.trans ?_
      rw [hf₂, State.calling_eq h.top, State.setFrames_setFrames, State.pushFrame, State.frames_setTop _ hr', State.setTop_of_frames _ hr', State.setFrames_setFrames, hr]
      rfl
    have hsame : U.sameButNew ({ U with heap := s₂.heap, slotsUsed := s₂.slotsUsed } : State) L mc ms := by
      refine ⟨?_, q2, q3, q4, q5, q6⟩
      obtain ⟨t, ht, -⟩ := State.frames_cons hr
      show ({ U with heap := s₂.heap, slotsUsed := s₂.slotsUsed } : State) = { U.setFrames U.frames with heap := s₂.heap, slotsUsed := s₂.slotsUsed }
      rw [State.setFrames_self ht]
    subst hg
    refine Or.inr ⟨q, ⟨(({ U with heap := s₂.heap, slotsUsed := s₂.slotsUsed } : State).setVm s₂.vm), Ls ++ L, c0 + mc, s0 + ms⟩,
      ⟨X.admits, X.cas, X.clock, X.frames, X.room, X.hears, X.method, X.code, (X.here.setHeapUsed s₂.heap s₂.slotsUsed).setVm hW'.alike, X.tail, State.WarmedH.trans X.warmed hW', X.limits, X.bytes, X.same.trans (hsame.setVm s.vm)⟩,
      ⟨g, mk, s₂, L, E, ce, rfl, rfl, hx, hce, hcv, hcl, rfl, hL, rfl, rfl⟩, ?_⟩
    show Steps p.tables e below _ (((({ U with heap := s₂.heap, slotsUsed := s₂.slotsUsed } : State).setVm s₂.vm).setTop g).pushFrame (.throwing q))
    rw [← hs₂]
    exact hsteps
end Payer
section Calls
variable {p : Program} {l : Launch} {e : Env} {R : Room} {s : State} {m : MethodId} {args : Array Value} {below : List Frame} {meth : Method} {c : Code} {T : State} {locs : List Loc} {cells slots : Nat}
theorem vx_callV (X : Stand p l e R s m args below meth c T locs cells slots) (hexec : p.tables.exec = Jvm.exec) {own C : String} {index : Nat} {y : MethodName} {bytes : ByteArray} {maxL : Nat} {ret : Option FieldType}
    (hown : s.vm.findClass own = some m.cls) (hlink : (Cond.methodLink own index y).before args s = true) (hinst : (Cond.instanceMethod y).before args s = true) (hsel : (Cond.selects C y y).before args s = true)
    (hcode : (Cond.code y bytes maxL ret).before args s = true) (hy : y.cls ≠ "java/lang/invoke/MethodHandle" ∧ y.cls ≠ "java/lang/invoke/VarHandle")
    {W9 : Nat} {Pre : Pt → Array Value → Prop} {Post : Pt → Array Value → Option Value → Pt → Prop} {PostX : Pt → Array Value → Addr → Pt → Prop} (hK : vx_Back l R p e below s args y 3 W9 Pre Post PostX)
    {b : Addr} {cellB : Cell} (hcell : T.heap[b]? = some cellB) (hobj : cellB.vm.isStatics = false) (hcls : s.vm.findClass C = some cellB.cls)
    {g : JFrame} (hg : g.method = m) (hsize : g.locals.size = c.maxLocals) {argsL rest : List Value} (hlen : ∀ sig, parseMethodDescriptor y.desc = some sig → argsL.length = sig.parameters.length)
    (hstack : g.stack = argsL.reverse ++ .ref b :: rest) (hW : 2 * g.monitorRoom + (rest.map fun v => v.category).sum ≤ W9) (hdg : decode c.code g.pc = .ok (.invokevirtual index, 3))
    (hpre : ∀ vm₁, s.WarmedH vm₁ → Pre ⟨T.setVm vm₁, locs, cells, slots⟩ (Value.ref b :: argsL).toArray) :
    (∃ (v : Option Value) (vm₁ : Vm) (B : Pt), s.WarmedH vm₁ ∧ Stand p l e R s m args below meth c B.U B.locs B.cells B.slots ∧ Post ⟨T.setVm vm₁, locs, cells, slots⟩ (Value.ref b :: argsL).toArray v B ∧
      ∀ target, Steps p.tables e below (B.U.setTop { g with pc := g.pc + 3, stack := v.toList ++ rest }) target → Steps p.tables e below (T.setTop g) target) ∨
    (∃ (q : Addr) (vm₁ : Vm) (B : Pt), s.WarmedH vm₁ ∧ Stand p l e R s m args below meth c B.U B.locs B.cells B.slots ∧ PostX ⟨T.setVm vm₁, locs, cells, slots⟩ (Value.ref b :: argsL).toArray q B ∧
      Steps p.tables e below (T.setTop g) ((B.U.setTop { g with stack := rest }).pushFrame (.throwing q))) := by
  obtain ⟨mk, methM, hnamed, hmethM, hstM, habM⟩ := Cond.instanceMethod_spec hinst
  obtain ⟨methM', cM, hmethM', -, -, -, -, -, -, hsigM⟩ := Cond.code_spec hnamed hcode
  cases hmethM.symm.trans hmethM'
  obtain ⟨c2, r2, m2, q1, q2, q3, q4, kP, hkP, hkPi⟩ := Cond.selects_spec hsel
  cases hcls.symm.trans q1
  cases (State.methodFound?_of_named hnamed hy).symm.trans q2
  cases hnamed.symm.trans q3
  have hselP : selectMethod e.platform s.vm cellB.cls mk = .method mk := by rw [Launch.admits_selectMethod X.admits]; exact q4
  obtain ⟨vm₁, X₁, hstep₁⟩ := X.invokevirtual hexec hown hlink hnamed hmethM hstM hkP hkPi hy (a := b) (cell := cellB) hcell
    (fun z h => by rw [h] at hobj; cases hobj) hselP hmethM habM hkP hkPi (g := g) hg (argsL := argsL) (rest := rest) (hlen _ hsigM) hstack hdg
  rcases hK m meth c ⟨T.setVm vm₁, locs, cells, slots⟩ { g with stack := rest } (.invokevirtual index) mk (Value.ref b :: argsL).toArray X₁ hg hsize hdg hW (X₁.named hnamed) (hpre vm₁ X₁.warmed) with ⟨v, B, X', hpost, hsteps⟩ | ⟨q, B, X', hpost, hsteps⟩
  · exact Or.inl ⟨v, vm₁, B, X₁.warmed, X', hpost, fun target h => hstep₁ _ fun acts => by rw [doInvoke_state]; exact hsteps.trans h⟩
  · exact Or.inr ⟨q, vm₁, B, X₁.warmed, X', hpost, hstep₁ _ fun acts => by rw [doInvoke_state]; exact hsteps⟩
theorem vx_callS (X : Stand p l e R s m args below meth c T locs cells slots) (hexec : p.tables.exec = Jvm.exec) {own : String} {index : Nat} {y : MethodName} {bytes : ByteArray} {maxL : Nat} {ret : Option FieldType}
    (hown : s.vm.findClass own = some m.cls) (hlink : (Cond.methodLink own index y).before args s = true) (hstat : (Cond.static y).before args s = true) (hinit : (Cond.initialized y.cls).before args s = true)
    (hcode : (Cond.code y bytes maxL ret).before args s = true) (hy : y.cls ≠ "java/lang/invoke/MethodHandle" ∧ y.cls ≠ "java/lang/invoke/VarHandle")
    {W9 : Nat} {Pre : Pt → Array Value → Prop} {Post : Pt → Array Value → Option Value → Pt → Prop} {PostX : Pt → Array Value → Addr → Pt → Prop} (hK : vx_Back l R p e below s args y 3 W9 Pre Post PostX)
    {g : JFrame} (hg : g.method = m) (hsize : g.locals.size = c.maxLocals) {argsL rest : List Value} (hlen : ∀ sig, parseMethodDescriptor y.desc = some sig → argsL.length = sig.parameters.length)
    (hstack : g.stack = argsL.reverse ++ rest) (hW : 2 * g.monitorRoom + (rest.map fun v => v.category).sum ≤ W9) (hdg : decode c.code g.pc = .ok (.invokestatic index, 3))
    (hpre : ∀ vm₁, s.WarmedH vm₁ → Pre ⟨T.setVm vm₁, locs, cells, slots⟩ argsL.toArray) :
    (∃ (v : Option Value) (vm₁ : Vm) (B : Pt), s.WarmedH vm₁ ∧ Stand p l e R s m args below meth c B.U B.locs B.cells B.slots ∧ Post ⟨T.setVm vm₁, locs, cells, slots⟩ argsL.toArray v B ∧
      ∀ target, Steps p.tables e below (B.U.setTop { g with pc := g.pc + 3, stack := v.toList ++ rest }) target → Steps p.tables e below (T.setTop g) target) ∨
    (∃ (q : Addr) (vm₁ : Vm) (B : Pt), s.WarmedH vm₁ ∧ Stand p l e R s m args below meth c B.U B.locs B.cells B.slots ∧ PostX ⟨T.setVm vm₁, locs, cells, slots⟩ argsL.toArray q B ∧
      Steps p.tables e below (T.setTop g) ((B.U.setTop { g with stack := rest }).pushFrame (.throwing q))) := by
  obtain ⟨mk, hnamed⟩ := Cond.code_named hcode
  obtain ⟨methM, cM, hmethM, -, -, -, -, -, -, hsigM⟩ := Cond.code_spec hnamed hcode
  have hstatic : methM.isStatic = true := Cond.static_spec hnamed hmethM hstat
  obtain ⟨kP, hkP, -⟩ := className_of_methodNamed hnamed
  have hinitP : kP.init = .initialized := Cond.initialized_spec (findClass_of_methodNamed hnamed) hkP hinit
  obtain ⟨vm₁, X₁, hstep₁⟩ := X.invokestatic hexec hown hlink hnamed hmethM hstatic hkP hinitP hy (g := g) hg (argsL := argsL) (rest := rest) (hlen _ hsigM) hstack hdg
  rcases hK m meth c ⟨T.setVm vm₁, locs, cells, slots⟩ { g with stack := rest } (.invokestatic index) mk argsL.toArray X₁ hg hsize hdg hW (X₁.named hnamed) (hpre vm₁ X₁.warmed) with ⟨v, B, X', hpost, hsteps⟩ | ⟨q, B, X', hpost, hsteps⟩
  · exact Or.inl ⟨v, vm₁, B, X₁.warmed, X', hpost, fun target h => hstep₁ _ fun acts => by rw [doInvoke_state]; exact hsteps.trans h⟩
  · exact Or.inr ⟨q, vm₁, B, X₁.warmed, X', hpost, hstep₁ _ fun acts => by rw [doInvoke_state]; exact hsteps⟩
end Calls
theorem vx_cls {s : State} {T : State} {vm₁ : Vm} {E : String} {k : ClassId} (hW : s.WarmedH vm₁) (h : (T.setVm vm₁).vm.findClass E = some k) : s.vm.findClass E = some k := by
  have h1 : vm₁.findClass E = some k := h
  rw [hW.alike.findClass] at h1
  exact h1
/-- the method's frame g, with q thrown over it -/
def vx_W (p : Program) (l : Launch) (e : Env) (R : Room) (s : State) (m : MethodId) (args : Array Value) (below : List Frame) (meth : Method) (c : Code) (H : Heap) (locs : List Loc) (cells slots : Nat) (Q : State → Prop) (g : JFrame) (q : Addr) : Prop :=
  ∀ T : State, T.heap = H → Stand p l e R s m args below meth c T locs cells slots → ∃ t, Steps p.tables e below ((T.setTop g).pushFrame (.throwing q)) t ∧ Q t
def vx_Run (p : Program) (l : Launch) (e : Env) (R : Room) (s : State) (m : MethodId) (args : Array Value) (below : List Frame) (meth : Method) (c : Code) (H : Heap) (locs : List Loc) (cells slots mc ms : Nat) (g : JFrame) (rest : List Value) (Qa : State → Outcome → State → Prop) (XC : String → State → State → Prop) (free : Addr → Prop) : Prop :=
  ∀ T : State, T.heap = H → Stand p l e R s m args below meth c T locs cells slots →
    (∃ (v : Option Value) (st₀ t T' : State) (L : List Loc), st₀.heap = H ∧ Stand p l e R s m args below meth c T' (locs ++ L) (cells + mc) (slots + ms) ∧ (∀ q ∈ L, free q.base) ∧ T'.heap = t.heap ∧ T'.vm = t.vm ∧ Qa st₀ (.returned v) t ∧
      Goes p e below T g T' { g with pc := g.pc + 3, stack := v.toList ++ rest }) ∨
    (∃ (q : Addr) (st₀ t T' : State) (L : List Loc) (E : String) (ce : Cell), st₀.heap = H ∧ Stand p l e R s m args below meth c T' (locs ++ L) (cells + mc) (slots + ms) ∧ (∀ z ∈ L, free z.base) ∧ T'.heap = t.heap ∧ T'.vm = t.vm ∧ XC E st₀ t ∧ t.heap[q]? = some ce ∧ ce.vm = .none ∧ s.vm.findClass E = some ce.cls ∧
      Steps p.tables e below (T.setTop g) ((T'.setTop { g with stack := rest }).pushFrame (.throwing q)))
def vx_X {S : Type} (px : S → Prop) (B : String → S → State → Prop) (A : Nat → Prop) : String → State → State → Prop := fun E st t => ∃ u : S, px u ∧ B E u t ∧ va_F A st t
section Runs
variable {p : Program} {l : Launch} {e : Env} {R : Room} {s : State} {m : MethodId} {args : Array Value} {below : List Frame} {meth : Method} {c : Code} {H : Heap} {locs : List Loc} {cells slots : Nat}
variable {y : MethodName} {bytes cc : ByteArray} {maxL nL mc ms n index : Nat} {ret : Option FieldType} {ws : List Cond} {rm : Room} {Pc : Array Value → State → Prop} {Qc : Array Value → State → Outcome → State → Prop} {XC : String → State → State → Prop} {free : Addr → Prop} {Ts : List Cond} {own C : String} {b : Addr} {As rest : List Value} {g : JFrame}
theorem vx_callBack (cb : CallB R s args own index y bytes maxL ret ws rm mc ms n) (hM : vx_Met l y ws rm Pc Qc XC mc ms free) (hbl : FrameBlind Pc) : vx_Back l R p e below s args y 3 8 (PreOf R mc ms Pc) (PostOf Qc mc ms free) (vx_Post XC mc ms free) := by
  obtain ⟨hrc, hrs, hfr, hlo, hws, hcw, -, hini, -⟩ := cb
  exact vx_back (bytes := bytes) (maxL := maxL) (ret := ret) hM hbl hrc hrs hfr hlo hws hcw (fun a' U hW => word_at hW (Or.inl (by first | rfl | simp [Cond.onTables, Cond.keeps, Cond.steady])) hini)
theorem vx_runV (S : CallFix p m c cc nL s args Ts own) (hM : vx_Met l y ws rm Pc Qc XC mc ms free) (cw : CallW R s args own C index y bytes maxL ret ws rm mc ms n) (hp : PreV s H C b Pc As)
    (hg : g.method = m) (hn : As.length = n) (hsize : g.locals.size = nL) (hstack : g.stack = As.reverse ++ .ref b :: rest) (hW : 2 * g.monitorRoom + (rest.map fun v => v.category).sum ≤ 8) (hdg : decode cc g.pc = .ok (.invokevirtual index, 3)) (hf : cells + mc ≤ R.cells ∧ slots + ms ≤ R.slots) :
    vx_Run p l e R s m args below meth c H locs cells slots mc ms g rest (Qc (Value.ref b :: As).toArray) XC free := by
  have hK : vx_Back l R p e below s args y 3 8 (PreOf R mc ms Pc) (PostOf Qc mc ms free) (vx_Post XC mc ms free) := vx_callBack cw.1 hM hp.1
  obtain ⟨⟨-, -, -, -, -, -, hcode, -, hy, hlen, hl⟩, hin, hse⟩ := cw
  obtain ⟨hx, hb, hml, ho, -⟩ := S
  obtain ⟨-, ⟨cellB, hcB, hoB, hclB⟩, hPc⟩ := hp
  intro T hT X
  rcases vx_callV X hx (C := C) (bytes := bytes) (maxL := maxL) (ret := ret) ho hl hin hse hcode hy hK (by rw [hT]; exact hcB) hoB hclB hg (hsize.trans hml.symm) (argsL := As) (rest := rest) (fun sig h => hn.trans (hlen sig h)) hstack hW (by rw [hb]; exact hdg)
    (fun vm₁ hW₁ => ⟨hf.1, hf.2, hPc (T.setVm vm₁) hT hW₁⟩) with ⟨v, vm₁, ⟨U', l2, c2, s2⟩, hW₁, X', ⟨g', mk, t, L, e1, e2, hq, h1, hL, h2, h3⟩, st⟩ | ⟨q, vm₁, ⟨U', l2, c2, s2⟩, hW₁, X', ⟨g', mk, t, L, E, ce, e1, e2, hq, hce, hcv, hcl, h1, hL, h2, h3⟩, st⟩
  · dsimp only [Pt.U, Pt.locs, Pt.cells, Pt.slots] at X' e1 e2 h1 h2 h3 st
    subst h1; subst h2; subst h3
    exact Or.inl ⟨v, (T.setVm vm₁).calling g' mk (Value.ref b :: As).toArray, t, U', L, hT, X', hL, e1, e2, hq, st⟩
  · dsimp only [Pt.U, Pt.locs, Pt.cells, Pt.slots] at X' e1 e2 h1 h2 h3 st hcl
    subst h1; subst h2; subst h3
    exact Or.inr ⟨q, (T.setVm vm₁).calling g' mk (Value.ref b :: As).toArray, t, U', L, E, ce, hT, X', hL, e1, e2, hq, hce, hcv, vx_cls hW₁ hcl, st⟩
theorem vx_runS (S : CallFix p m c cc nL s args Ts own) (hM : vx_Met l y ws rm Pc Qc XC mc ms free) (cw : CallB R s args own index y bytes maxL ret ws rm mc ms n ∧ (Cond.static y).before args s = true) (hp : PreS s H Pc As)
    (hg : g.method = m) (hn : As.length = n) (hsize : g.locals.size = nL) (hstack : g.stack = As.reverse ++ rest) (hW : 2 * g.monitorRoom + (rest.map fun v => v.category).sum ≤ 8) (hdg : decode cc g.pc = .ok (.invokestatic index, 3)) (hf : cells + mc ≤ R.cells ∧ slots + ms ≤ R.slots) :
    vx_Run p l e R s m args below meth c H locs cells slots mc ms g rest (Qc As.toArray) XC free := by
  have hK : vx_Back l R p e below s args y 3 8 (PreOf R mc ms Pc) (PostOf Qc mc ms free) (vx_Post XC mc ms free) := vx_callBack cw.1 hM hp.1
  obtain ⟨⟨-, -, -, -, -, -, hcode, hini, hy, hlen, hl⟩, hstt⟩ := cw
  obtain ⟨hx, hb, hml, ho, -⟩ := S
  intro T hT X
  rcases vx_callS X hx (bytes := bytes) (maxL := maxL) (ret := ret) ho hl hstt hini hcode hy hK hg (hsize.trans hml.symm) (argsL := As) (rest := rest) (fun sig h => hn.trans (hlen sig h)) hstack hW (by rw [hb]; exact hdg)
    (fun vm₁ hW₁ => ⟨hf.1, hf.2, hp.2 (T.setVm vm₁) hT hW₁⟩) with ⟨v, vm₁, ⟨U', l2, c2, s2⟩, hW₁, X', ⟨g', mk, t, L, e1, e2, hq, h1, hL, h2, h3⟩, st⟩ | ⟨q, vm₁, ⟨U', l2, c2, s2⟩, hW₁, X', ⟨g', mk, t, L, E, ce, e1, e2, hq, hce, hcv, hcl, h1, hL, h2, h3⟩, st⟩
  · dsimp only [Pt.U, Pt.locs, Pt.cells, Pt.slots] at X' e1 e2 h1 h2 h3 st
    subst h1; subst h2; subst h3
    exact Or.inl ⟨v, (T.setVm vm₁).calling g' mk As.toArray, t, U', L, hT, X', hL, e1, e2, hq, st⟩
  · dsimp only [Pt.U, Pt.locs, Pt.cells, Pt.slots] at X' e1 e2 h1 h2 h3 st hcl
    subst h1; subst h2; subst h3
    exact Or.inr ⟨q, (T.setVm vm₁).calling g' mk As.toArray, t, U', L, E, ce, hT, X', hL, e1, e2, hq, hce, hcv, vx_cls hW₁ hcl, st⟩
end Runs
section Rows
variable {p : Program} {l : Launch} {e : Env} {R : Room} {s : State} {m : MethodId} {args : Array Value} {below : List Frame} {meth : Method} {c : Code} {H : Heap} {locs : List Loc} {cells slots : Nat} {Q : State → Prop}
variable {mc ms : Nat} {free : Addr → Prop} {A0 A1 : Nat → Prop} {H0 : Heap} {a : Array Value} {pc : Nat} {ls : Array Slot} {st0 rest : List Value}
theorem vx_keep {st₀ t T' : State} {L : List Loc} (h0 : st₀.heap = H) (e1 : T'.heap = t.heap) (hS : va_S A0 H0 H locs) (hA : ∀ q, q < H.size → A1 q → A0 q) (hf : ∀ q, free q → A0 q) (hL : ∀ q ∈ L, free q.base) (hF : va_F A1 st₀ t) :
    H.size ≤ T'.heap.size ∧ (∀ q : Nat, q < H.size → ¬ A1 q → T'.heap[q]? = H[q]?) ∧ va_S A0 H0 T'.heap (locs ++ L) := by
  obtain ⟨hz, hk⟩ := hF
  rw [h0] at hz hk
  exact ⟨by rw [e1]; exact hz, fun q h1 h2 => by rw [e1]; exact hk q h1 h2,
    ⟨Nat.le_trans hS.1 (by rw [e1]; exact hz), fun q h1 h2 => by rw [e1, hk q (Nat.lt_of_lt_of_le h1 hS.1) (fun z => h2 (hA q (Nat.lt_of_lt_of_le h1 hS.1) z))]; exact hS.2.1 q h1 h2, fun q hq => by
      rcases List.mem_append.mp hq with h | h
      · exact hS.2.2 q h
      · exact hf _ (hL q h)⟩⟩
theorem vx_calli {S SX : Type} {post : Int32 → S → Prop} {px : SX → Prop} {B : S → State → Prop} {BX : String → SX → State → Prop} {AX : Nat → Prop} (hr : vx_Run p l e R s m args below meth c H locs cells slots mc ms (F0 m pc ls st0) rest (va_Qi post B A1 a) (vx_X px BX AX) free) (hS : va_S A0 H0 H locs) (hA : ∀ q, q < H.size → A1 q → A0 q) (hf : ∀ q, free q → A0 q) (hAX : ∀ q, q < H.size → AX q → A0 q)
    (kx : ∀ (E : String) (ce : Cell) (q9 : Addr) (u : SX) (t : State) (H1 : Heap) (locs1 : List Loc), t.heap = H1 → s.vm.Alike t.vm → px u → BX E u t → H.size ≤ H1.size → (∀ q : Nat, q < H.size → ¬ AX q → H1[q]? = H[q]?) → va_S A0 H0 H1 locs1 → H1[q9]? = some ce → ce.vm = .none → s.vm.findClass E = some ce.cls → vx_W p l e R s m args below meth c H1 locs1 (cells + mc) (slots + ms) Q (F0 m pc ls rest) q9)
    (kk : ∀ (r : Int32) (u : S) (t : State) (H1 : Heap) (locs1 : List Loc), t.heap = H1 → s.vm.Alike t.vm → post r u → B u t → H.size ≤ H1.size → (∀ q : Nat, q < H.size → ¬ A1 q → H1[q]? = H[q]?) → va_S A0 H0 H1 locs1 → W p l e R s m args below meth c H1 locs1 (cells + mc) (slots + ms) Q (F0 m (pc + 3) ls (.int r :: rest))) : W p l e R s m args below meth c H locs cells slots Q (F0 m pc ls st0) := by
  intro T hT X
  rcases hr T hT X with ⟨v, st₀, t, T', L, h0, X', hL, e1, e2, ⟨⟨r, u, hv, hp, hb⟩, hF⟩, st⟩ | ⟨q, st₀, t, T', L, E, ce, h0, X', hL, e1, e2, ⟨u, hp, hb, hF⟩, hce, hcv, hcl, st⟩
  · cases hv
    obtain ⟨k1, k2, k3⟩ := vx_keep h0 e1 hS hA hf hL hF
    obtain ⟨t2, a1, b1⟩ := kk r u t T'.heap (locs ++ L) e1.symm (by rw [← e2]; exact X'.warmed.alike) hp hb k1 k2 k3 T' rfl X'
    exact ⟨t2, st t2 a1, b1⟩
  · obtain ⟨k1, k2, k3⟩ := vx_keep h0 e1 hS hAX hf hL hF
    obtain ⟨t2, a1, b1⟩ := kx E ce q u t T'.heap (locs ++ L) e1.symm (by rw [← e2]; exact X'.warmed.alike) hp hb k1 k2 k3 (by rw [e1]; exact hce) hcv hcl T' rfl X'
    exact ⟨t2, st.trans a1, b1⟩
theorem vx_calll {S SX : Type} {post : Int64 → S → Prop} {px : SX → Prop} {B : S → State → Prop} {BX : String → SX → State → Prop} {AX : Nat → Prop} (hr : vx_Run p l e R s m args below meth c H locs cells slots mc ms (F0 m pc ls st0) rest (va_Ql post B A1 a) (vx_X px BX AX) free) (hS : va_S A0 H0 H locs) (hA : ∀ q, q < H.size → A1 q → A0 q) (hf : ∀ q, free q → A0 q) (hAX : ∀ q, q < H.size → AX q → A0 q)
    (kx : ∀ (E : String) (ce : Cell) (q9 : Addr) (u : SX) (t : State) (H1 : Heap) (locs1 : List Loc), t.heap = H1 → s.vm.Alike t.vm → px u → BX E u t → H.size ≤ H1.size → (∀ q : Nat, q < H.size → ¬ AX q → H1[q]? = H[q]?) → va_S A0 H0 H1 locs1 → H1[q9]? = some ce → ce.vm = .none → s.vm.findClass E = some ce.cls → vx_W p l e R s m args below meth c H1 locs1 (cells + mc) (slots + ms) Q (F0 m pc ls rest) q9)
    (kk : ∀ (r : Int64) (u : S) (t : State) (H1 : Heap) (locs1 : List Loc), t.heap = H1 → s.vm.Alike t.vm → post r u → B u t → H.size ≤ H1.size → (∀ q : Nat, q < H.size → ¬ A1 q → H1[q]? = H[q]?) → va_S A0 H0 H1 locs1 → W p l e R s m args below meth c H1 locs1 (cells + mc) (slots + ms) Q (F0 m (pc + 3) ls (.long r :: rest))) : W p l e R s m args below meth c H locs cells slots Q (F0 m pc ls st0) := by
  intro T hT X
  rcases hr T hT X with ⟨v, st₀, t, T', L, h0, X', hL, e1, e2, ⟨⟨r, u, hv, hp, hb⟩, hF⟩, st⟩ | ⟨q, st₀, t, T', L, E, ce, h0, X', hL, e1, e2, ⟨u, hp, hb, hF⟩, hce, hcv, hcl, st⟩
  · cases hv
    obtain ⟨k1, k2, k3⟩ := vx_keep h0 e1 hS hA hf hL hF
    obtain ⟨t2, a1, b1⟩ := kk r u t T'.heap (locs ++ L) e1.symm (by rw [← e2]; exact X'.warmed.alike) hp hb k1 k2 k3 T' rfl X'
    exact ⟨t2, st t2 a1, b1⟩
  · obtain ⟨k1, k2, k3⟩ := vx_keep h0 e1 hS hAX hf hL hF
    obtain ⟨t2, a1, b1⟩ := kx E ce q u t T'.heap (locs ++ L) e1.symm (by rw [← e2]; exact X'.warmed.alike) hp hb k1 k2 k3 (by rw [e1]; exact hce) hcv hcl T' rfl X'
    exact ⟨t2, st.trans a1, b1⟩
theorem vx_callf {S SX : Type} {post : UInt32 → S → Prop} {px : SX → Prop} {B : S → State → Prop} {BX : String → SX → State → Prop} {AX : Nat → Prop} (hr : vx_Run p l e R s m args below meth c H locs cells slots mc ms (F0 m pc ls st0) rest (va_Qf post B A1 a) (vx_X px BX AX) free) (hS : va_S A0 H0 H locs) (hA : ∀ q, q < H.size → A1 q → A0 q) (hf : ∀ q, free q → A0 q) (hAX : ∀ q, q < H.size → AX q → A0 q)
    (kx : ∀ (E : String) (ce : Cell) (q9 : Addr) (u : SX) (t : State) (H1 : Heap) (locs1 : List Loc), t.heap = H1 → s.vm.Alike t.vm → px u → BX E u t → H.size ≤ H1.size → (∀ q : Nat, q < H.size → ¬ AX q → H1[q]? = H[q]?) → va_S A0 H0 H1 locs1 → H1[q9]? = some ce → ce.vm = .none → s.vm.findClass E = some ce.cls → vx_W p l e R s m args below meth c H1 locs1 (cells + mc) (slots + ms) Q (F0 m pc ls rest) q9)
    (kk : ∀ (r : UInt32) (u : S) (t : State) (H1 : Heap) (locs1 : List Loc), t.heap = H1 → s.vm.Alike t.vm → post r u → B u t → H.size ≤ H1.size → (∀ q : Nat, q < H.size → ¬ A1 q → H1[q]? = H[q]?) → va_S A0 H0 H1 locs1 → W p l e R s m args below meth c H1 locs1 (cells + mc) (slots + ms) Q (F0 m (pc + 3) ls (.float r :: rest))) : W p l e R s m args below meth c H locs cells slots Q (F0 m pc ls st0) := by
  intro T hT X
  rcases hr T hT X with ⟨v, st₀, t, T', L, h0, X', hL, e1, e2, ⟨⟨r, u, hv, hp, hb⟩, hF⟩, st⟩ | ⟨q, st₀, t, T', L, E, ce, h0, X', hL, e1, e2, ⟨u, hp, hb, hF⟩, hce, hcv, hcl, st⟩
  · cases hv
    obtain ⟨k1, k2, k3⟩ := vx_keep h0 e1 hS hA hf hL hF
    obtain ⟨t2, a1, b1⟩ := kk r u t T'.heap (locs ++ L) e1.symm (by rw [← e2]; exact X'.warmed.alike) hp hb k1 k2 k3 T' rfl X'
    exact ⟨t2, st t2 a1, b1⟩
  · obtain ⟨k1, k2, k3⟩ := vx_keep h0 e1 hS hAX hf hL hF
    obtain ⟨t2, a1, b1⟩ := kx E ce q u t T'.heap (locs ++ L) e1.symm (by rw [← e2]; exact X'.warmed.alike) hp hb k1 k2 k3 (by rw [e1]; exact hce) hcv hcl T' rfl X'
    exact ⟨t2, st.trans a1, b1⟩
theorem vx_calld {S SX : Type} {post : UInt64 → S → Prop} {px : SX → Prop} {B : S → State → Prop} {BX : String → SX → State → Prop} {AX : Nat → Prop} (hr : vx_Run p l e R s m args below meth c H locs cells slots mc ms (F0 m pc ls st0) rest (va_Qd post B A1 a) (vx_X px BX AX) free) (hS : va_S A0 H0 H locs) (hA : ∀ q, q < H.size → A1 q → A0 q) (hf : ∀ q, free q → A0 q) (hAX : ∀ q, q < H.size → AX q → A0 q)
    (kx : ∀ (E : String) (ce : Cell) (q9 : Addr) (u : SX) (t : State) (H1 : Heap) (locs1 : List Loc), t.heap = H1 → s.vm.Alike t.vm → px u → BX E u t → H.size ≤ H1.size → (∀ q : Nat, q < H.size → ¬ AX q → H1[q]? = H[q]?) → va_S A0 H0 H1 locs1 → H1[q9]? = some ce → ce.vm = .none → s.vm.findClass E = some ce.cls → vx_W p l e R s m args below meth c H1 locs1 (cells + mc) (slots + ms) Q (F0 m pc ls rest) q9)
    (kk : ∀ (r : UInt64) (u : S) (t : State) (H1 : Heap) (locs1 : List Loc), t.heap = H1 → s.vm.Alike t.vm → post r u → B u t → H.size ≤ H1.size → (∀ q : Nat, q < H.size → ¬ A1 q → H1[q]? = H[q]?) → va_S A0 H0 H1 locs1 → W p l e R s m args below meth c H1 locs1 (cells + mc) (slots + ms) Q (F0 m (pc + 3) ls (.double r :: rest))) : W p l e R s m args below meth c H locs cells slots Q (F0 m pc ls st0) := by
  intro T hT X
  rcases hr T hT X with ⟨v, st₀, t, T', L, h0, X', hL, e1, e2, ⟨⟨r, u, hv, hp, hb⟩, hF⟩, st⟩ | ⟨q, st₀, t, T', L, E, ce, h0, X', hL, e1, e2, ⟨u, hp, hb, hF⟩, hce, hcv, hcl, st⟩
  · cases hv
    obtain ⟨k1, k2, k3⟩ := vx_keep h0 e1 hS hA hf hL hF
    obtain ⟨t2, a1, b1⟩ := kk r u t T'.heap (locs ++ L) e1.symm (by rw [← e2]; exact X'.warmed.alike) hp hb k1 k2 k3 T' rfl X'
    exact ⟨t2, st t2 a1, b1⟩
  · obtain ⟨k1, k2, k3⟩ := vx_keep h0 e1 hS hAX hf hL hF
    obtain ⟨t2, a1, b1⟩ := kx E ce q u t T'.heap (locs ++ L) e1.symm (by rw [← e2]; exact X'.warmed.alike) hp hb k1 k2 k3 (by rw [e1]; exact hce) hcv hcl T' rfl X'
    exact ⟨t2, st.trans a1, b1⟩
theorem vx_callv {S SX : Type} {post : S → Prop} {px : SX → Prop} {B : S → State → Prop} {BX : String → SX → State → Prop} {AX : Nat → Prop} (hr : vx_Run p l e R s m args below meth c H locs cells slots mc ms (F0 m pc ls st0) rest (va_Qv post B A1 a) (vx_X px BX AX) free) (hS : va_S A0 H0 H locs) (hA : ∀ q, q < H.size → A1 q → A0 q) (hf : ∀ q, free q → A0 q) (hAX : ∀ q, q < H.size → AX q → A0 q)
    (kx : ∀ (E : String) (ce : Cell) (q9 : Addr) (u : SX) (t : State) (H1 : Heap) (locs1 : List Loc), t.heap = H1 → s.vm.Alike t.vm → px u → BX E u t → H.size ≤ H1.size → (∀ q : Nat, q < H.size → ¬ AX q → H1[q]? = H[q]?) → va_S A0 H0 H1 locs1 → H1[q9]? = some ce → ce.vm = .none → s.vm.findClass E = some ce.cls → vx_W p l e R s m args below meth c H1 locs1 (cells + mc) (slots + ms) Q (F0 m pc ls rest) q9)
    (kk : ∀ (u : S) (t : State) (H1 : Heap) (locs1 : List Loc), t.heap = H1 → s.vm.Alike t.vm → post u → B u t → H.size ≤ H1.size → (∀ q : Nat, q < H.size → ¬ A1 q → H1[q]? = H[q]?) → va_S A0 H0 H1 locs1 → W p l e R s m args below meth c H1 locs1 (cells + mc) (slots + ms) Q (F0 m (pc + 3) ls (rest))) : W p l e R s m args below meth c H locs cells slots Q (F0 m pc ls st0) := by
  intro T hT X
  rcases hr T hT X with ⟨v, st₀, t, T', L, h0, X', hL, e1, e2, ⟨⟨u, hv, hp, hb⟩, hF⟩, st⟩ | ⟨q, st₀, t, T', L, E, ce, h0, X', hL, e1, e2, ⟨u, hp, hb, hF⟩, hce, hcv, hcl, st⟩
  · cases hv
    obtain ⟨k1, k2, k3⟩ := vx_keep h0 e1 hS hA hf hL hF
    obtain ⟨t2, a1, b1⟩ := kk u t T'.heap (locs ++ L) e1.symm (by rw [← e2]; exact X'.warmed.alike) hp hb k1 k2 k3 T' rfl X'
    exact ⟨t2, st t2 a1, b1⟩
  · obtain ⟨k1, k2, k3⟩ := vx_keep h0 e1 hS hAX hf hL hF
    obtain ⟨t2, a1, b1⟩ := kx E ce q u t T'.heap (locs ++ L) e1.symm (by rw [← e2]; exact X'.warmed.alike) hp hb k1 k2 k3 (by rw [e1]; exact hce) hcv hcl T' rfl X'
    exact ⟨t2, st.trans a1, b1⟩
/-- caught by the row x of this method's table; the rows ahead don't take it -/
theorem vx_catch {own name : String} {E : String} {ce : Cell} {q : Addr} (hown : s.vm.findClass own = some m.cls) (pre : List ExceptionTableEntry) (x : ExceptionTableEntry) (suf : List ExceptionTableEntry) (hsplit : c.exceptionTable.toList = pre ++ x :: suf)
    (hpass : ∀ z ∈ pre, covers z pc = false ∨ (z.catchType ≠ 0 ∧ ∃ nm : String, (Cond.classLink own z.catchType nm).before args s = true ∧ va_Nc E nm s)) (hx : covers x pc = true) (h0 : x.catchType ≠ 0)
    (hlink : (Cond.classLink own x.catchType name).before args s = true) (hcast : (Cond.castable E name).before args s = true) (hcell : H[q]? = some ce) (hv : ce.vm = .none) (hcl : s.vm.findClass E = some ce.cls)
    (kk : W p l e R s m args below meth c H locs cells slots Q (F0 m x.handlerPc ls [.ref q])) : vx_W p l e R s m args below meth c H locs cells slots Q (F0 m pc ls rest) q := by
  intro T hT X
  have hpl : e.platform.magicAccessors = ({} : Platform).magicAccessors := by rw [X.admits.platform]
  obtain ⟨c3, c4, hc3, hc4, hasg⟩ := Cond.castable_spec hcast
  cases Option.some.inj (hc3.symm.trans hcl)
  obtain ⟨c5, hc5, hcl5⟩ := Cond.classLink_spec hown hlink e.platform hpl
  cases Option.some.inj (hc4.symm.trans hc5)
  obtain ⟨vm', X', st⟩ := X.thenCaughtThrough q (g := F0 m pc ls rest) rfl (Steps.refl _) (by rw [hT]; exact hcell) (by rw [hv]; rfl) (by obtain ⟨k9, h9, -⟩ := Vm.findClass_spec hcl; exact ⟨k9, h9⟩) pre x suf hsplit
    (fun z hz => by
      rcases hpass z hz with h | ⟨hz0, nm, hl1, hn1⟩
      · exact Or.inl h
      · obtain ⟨c6, hc6, hcl6⟩ := Cond.classLink_spec hown hl1 e.platform hpl
        obtain ⟨a8, b8, h1, h2, h3⟩ := hn1
        cases Option.some.inj (h1.symm.trans hcl)
        cases Option.some.inj (h2.symm.trans hc6)
        exact Or.inr ⟨hz0, _, hcl6, h3⟩) hx (Or.inr ⟨h0, c4, hcl5, hasg⟩)
  obtain ⟨t, a1, b1⟩ := kk (T.setVm vm') hT X'
  exact ⟨t, st.trans a1, b1⟩
end Rows
section Ends
variable {p : Program} {l : Launch} {e : Env} {R : Room} {s : State} {m : MethodId} {args : Array Value} {below : List Frame} {meth : Method} {c : Code} {H : Heap} {locs : List Loc} {cells slots : Nat} {Q : State → Prop}
variable {mc ms : Nat} {free : Addr → Prop} {A0 A1 : Nat → Prop} {H0 : Heap} {a : Array Value} {ls : Array Slot} {st0 rest : List Value}
variable {Qc : Array Value → State → Outcome → State → Prop} {XC : String → State → State → Prop}
/-- what a body that may throw owes at its end -/
def vx_MQ (below : List Frame) (Qc : Array Value → State → Outcome → State → Prop) (XC : String → State → State → Prop) (a : Array Value) (s : State) (mc ms : Nat) (free : Addr → Prop) : State → Prop := fun t =>
  ∃ o, t.status = .running ∧ Ended t below o ∧ vx_Q Qc XC mc ms free a s o t
theorem vx_ret {g : JFrame} {mc ms : Nat} (k : W p l e R s m args below meth c H locs cells slots (MQ below Qc args s mc ms free) g) : W p l e R s m args below meth c H locs cells slots (vx_MQ below Qc XC args s mc ms free) g := by
  intro T hT X
  obtain ⟨t, a1, o, b1, b2, b3, b4⟩ := k T hT X
  exact ⟨t, a1, o, b1, b2, Or.inl ⟨b3, b4⟩⟩
/-- not caught here: it goes on to the caller -/
theorem vx_widen {g : JFrame} {q : Addr} {k n : Nat} (h1 : cells ≤ k) (h2 : slots ≤ n) (kk : vx_W p l e R s m args below meth c H locs k n Q g q) : vx_W p l e R s m args below meth c H locs cells slots Q g q := fun T hT X => kk T hT (stand_widen X h1 h2)
theorem vx_out {pc : Nat} {E : String} {ce : Cell} {q : Addr} {mc ms : Nat} (hout : ∀ x ∈ c.exceptionTable.toList, covers x pc = false) (hlocks : meth.locks = false) (hcell : H[q]? = some ce) (hv : ce.vm = .none) (hcl : s.vm.findClass E = some ce.cls)
    (hx : ∀ t : State, t.heap = H → s.vm.Alike t.vm → XC E s t) (hf : ∀ z ∈ locs, free z.base) (hc : cells ≤ mc) (hs : slots ≤ ms) :
    vx_W p l e R s m args below meth c H locs cells slots (vx_MQ below Qc XC args s mc ms free) (F0 m pc ls rest) q := by
  intro T hT X
  obtain ⟨st1, hrun, hend, hW, hsm⟩ := X.leaveThrown q (g := F0 m pc ls rest) rfl rfl rfl hout hlocks
  have hcell9 : (T.setFrames (.throwing q :: below)).heap[q]? = some ce := by
    show T.heap[q]? = some ce
    rw [hT]; exact hcell
  exact ⟨_, st1, .threw q, hrun, hend, Or.inr ⟨q, rfl, E, ce, locs, hx _ hT hW.alike, hcell9, hv, hcl, hW, hsm.mono hc hs, hf⟩⟩
theorem vx_frame {U : State} {k n : Nat} (h : s.sameButNew ({ U with vm := s.vm } : State) locs k n) : s.heap.size ≤ U.heap.size ∧ ∀ q : Nat, q < s.heap.size → (∀ z ∈ locs, z.base ≠ q) → U.heap[q]? = s.heap[q]? := by
  obtain ⟨-, h2, -, -, -, h6⟩ := h
  refine ⟨h2, fun q hq hz => ?_⟩
  obtain ⟨c9, e1, e2, e3, e4⟩ := h6 q _ (Array.getElem?_eq_getElem hq)
  have hs : c9.slots = (s.heap[q]).slots := Array.ext_getElem? fun i => e4 i fun hm => hz _ hm rfl
  have h9 : c9 = s.heap[q] := by
    rw [hs] at e2
    exact e2
  have e5 : U.heap[q]? = some c9 := e1
  rw [e5, h9, Array.getElem?_eq_getElem hq]
/-- the words of a throw but the four that speak of the heap -/
def vx_no (w : Cond) : Bool := decide (w ≠ .isRef (.static Bundle.tN "UNASSIGNED_STACK" Bundle.steD)) && decide (w ≠ .isRef (.static Bundle.tN "SUPPRESSED_SENTINEL" Bundle.listD)) && decide (w ≠ .laysStatic Bundle.tN "UNASSIGNED_STACK" Bundle.steD) && decide (w ≠ .laysStatic Bundle.tN "SUPPRESSED_SENTINEL" Bundle.listD)
def vx_at0 (own : String) (ic : Nat) (X : String) (names : List String) : List Cond := (Bundle.ownAtoms0 own ic X names).filter vx_no
def vx_atS (own : String) (ic : Nat) (X : String) (names : List String) : List Cond := (Bundle.ownAtoms own ic X names).filter vx_no
/-- a word that the tables alone decide, or a good one -/
def vx_ot (w : Cond) : Bool := w.onTables || goodWord w
theorem vx_ot_at {args a' : Array Value} {s U : State} {w : Cond} (hW : s.WarmedH U.vm) (hvm : s.vm = U.vm) (hg : vx_ot w = true) (h : w.before args s = true) : w.before a' U = true := by
  simp only [vx_ot, Bool.or_eq_true] at hg
  rcases hg with hg | hg
  · exact va_tabs hg hvm h
  · exact word_at hW (good_of_word hg) h
/-- a list's words: the good ones out of the method's own list, the others by premises of their own -/
theorem vx_hat {args : Array Value} {s : State} {L B : List Cond} (h1 : ∀ w ∈ L.filter goodWord, w.before args s = true) (h2 : ∀ w ∈ L.filter (fun w => !goodWord w), w ∈ B) (h3 : ∀ w ∈ B, w.before args s = true) : ∀ w ∈ L, w.before args s = true := by
  intro w hw
  by_cases g : goodWord w = true
  · exact h1 w (List.mem_filter.mpr ⟨hw, g⟩)
  · refine h3 w (h2 w (List.mem_filter.mpr ⟨hw, ?_⟩))
    show (!goodWord w) = true
    cases hgw : goodWord w
    · rfl
    · exact absurd hgw g
theorem vx_c {args : Array Value} {s : State} {w : Cond} {B : List Cond} (h : w.before args s = true) (t : ∀ w ∈ B, w.before args s = true) : ∀ w' ∈ w :: B, w'.before args s = true := fun w' h' => (List.mem_cons.mp h').elim (fun e => by rw [e]; exact h) (t w')
theorem vx_n {args : Array Value} {s : State} : ∀ w ∈ ([] : List Cond), w.before args s = true := fun _ h => nomatch h
theorem vx_own {args : Array Value} {s : State} {L : List Cond} (h1 : ∀ w ∈ L.filter vx_no, w.before args s = true)
    (hU : (Cond.isRef (.static Bundle.tN "UNASSIGNED_STACK" Bundle.steD)).before args s = true) (hN : (Cond.isRef (.static Bundle.tN "SUPPRESSED_SENTINEL" Bundle.listD)).before args s = true)
    (lU : (Cond.laysStatic Bundle.tN "UNASSIGNED_STACK" Bundle.steD).before args s = true) (lN : (Cond.laysStatic Bundle.tN "SUPPRESSED_SENTINEL" Bundle.listD).before args s = true) : ∀ w ∈ L, w.before args s = true := by
  intro w hw
  by_cases e1 : w = .isRef (.static Bundle.tN "UNASSIGNED_STACK" Bundle.steD)
  · rw [e1]; exact hU
  · by_cases e2 : w = .isRef (.static Bundle.tN "SUPPRESSED_SENTINEL" Bundle.listD)
    · rw [e2]; exact hN
    · by_cases e3 : w = .laysStatic Bundle.tN "UNASSIGNED_STACK" Bundle.steD
      · rw [e3]; exact lU
      · by_cases e4 : w = .laysStatic Bundle.tN "SUPPRESSED_SENTINEL" Bundle.listD
        · rw [e4]; exact lN
        · exact h1 w (List.mem_filter.mpr ⟨hw, by unfold vx_no; rw [decide_eq_true e1, decide_eq_true e2, decide_eq_true e3, decide_eq_true e4]; rfl⟩)
/-- where a static field lies, its class's statics cell in H -/
def vx_L (C n d : String) (A : Nat → Prop) (U : State) (H : Heap) : Prop := ∃ (c : ClassId) (k : Class) (i : Nat) (f : Field) (a : Nat) (cell : Cell), U.vm.findClass C = some c ∧ U.fieldFound? C n d = some (c, k, i, f) ∧ f.isStatic = true ∧ k.statics = some a ∧ H[a]? = some cell ∧ cell.vm.isStatics = true ∧ cell.cls = c ∧ f.slot < cell.slots.size ∧ k.staticTypes[f.slot]? = some f.type ∧ ¬ A a
theorem vx_L.moved {C n d : String} {A : Nat → Prop} {u U : State} {H : Heap} (hvm : u.vm.Alike U.vm) (h : vx_L C n d A u H) : vx_L C n d A U H := by
  obtain ⟨c, k, i, f, a, cell, h1, h2, h3, h4, h5, h6, h7, h8, h9, h10⟩ := h
  obtain ⟨k', hi', he⟩ := State.fieldFound?_setVm hvm h2
  exact ⟨c, k', i, f, a, cell, by rw [hvm.findClass]; exact h1, hi', h3, by rw [he]; exact h4, h5, h6, h7, h8, by rw [he]; exact h9, h10⟩
theorem vx_L.kept {C n d : String} {A : Nat → Prop} {U : State} {H H1 : Heap} (h : vx_L C n d A U H) (hq : ∀ a : Nat, a < H.size → ¬ A a → H1[a]? = H[a]?) : vx_L C n d A U H1 := by
  obtain ⟨c, k, i, f, a, cell, h1, h2, h3, h4, h5, h6, h7, h8, h9, h10⟩ := h
  exact ⟨c, k, i, f, a, cell, h1, h2, h3, h4, by rw [hq a (Array.getElem?_eq_some_iff.mp h5).1 h10]; exact h5, h6, h7, h8, h9, h10⟩
theorem vx_L.narrow {C n d : String} {A B : Nat → Prop} {U : State} {H : Heap} (h : vx_L C n d A U H) (hAB : ∀ q, B q → A q) : vx_L C n d B U H := by
  obtain ⟨c, k, i, f, a, cell, h1, h2, h3, h4, h5, h6, h7, h8, h9, h10⟩ := h
  exact ⟨c, k, i, f, a, cell, h1, h2, h3, h4, h5, h6, h7, h8, h9, fun z => h10 (hAB _ z)⟩
theorem vx_L.word {C n d : String} {A : Nat → Prop} {s : State} {args : Array Value} (h : vx_L C n d A s s.heap) : (Cond.laysStatic C n d).before args s = true := by
  obtain ⟨c, k, i, f, a, cell, h1, h2, h3, h4, h5, h6, h7, h8, h9, -⟩ := h
  show (Cond.laysStatic C n d).holds args s none s [] = true
  exact Cond.laysStatic_of h1 h2 h3 h4 h5 h6 h7 h8 h9
/-- .. and what it holds: null or some reference -/
def vx_Zq (C n d : String) (A : Nat → Prop) (U : State) (H : Heap) : Prop := va_Zq C n d A U H ∧ vx_L C n d A U H
theorem vx_Zq.moved {C n d : String} {A : Nat → Prop} {u U : State} {H : Heap} (hvm : u.vm.Alike U.vm) (h : vx_Zq C n d A u H) : vx_Zq C n d A U H := ⟨va_Zq.moved hvm h.1, vx_L.moved hvm h.2⟩
theorem vx_Zq.kept {C n d : String} {A : Nat → Prop} {U : State} {H H1 : Heap} (h : vx_Zq C n d A U H) (hq : ∀ a : Nat, a < H.size → ¬ A a → H1[a]? = H[a]?) : vx_Zq C n d A U H1 := ⟨va_Zq.kept h.1 hq, vx_L.kept h.2 hq⟩
theorem vx_Zq.narrow {C n d : String} {A B : Nat → Prop} {U : State} {H : Heap} (h : vx_Zq C n d A U H) (hAB : ∀ q, B q → A q) : vx_Zq C n d B U H := ⟨va_Zq.narrow h.1 hAB, vx_L.narrow h.2 hAB⟩
theorem vx_Zqof {args : Array Value} {s : State} {C n d : String} {A : Nat → Prop} (hl : (Cond.laysStatic C n d).before args s = true) (hini : (Cond.initialized C).before args s = true) (h : (Cond.isRef (.static C n d)).before args s = true) (hA : ∀ a : Nat, a < s.heap.size → ¬ A a) : vx_Zq C n d A s s.heap := by
  refine ⟨va_Zqof hl hini h hA, ?_⟩
  obtain ⟨c, k, i, f, a, cell, h1, h2, h3, h4, h5, h6, h7, h8, h9⟩ := Cond.laysStatic_spec hl
  exact ⟨c, k, i, f, a, cell, h1, h2, h3, h4, h5, h6, h7, h8, h9, hA a (Array.getElem?_eq_some_iff.mp h5).1⟩
theorem vx_isRef {C n d : String} {v : Value} {A : Nat → Prop} {s : State} {args : Array Value} (h : va_Z C n d v A s s.heap) (hv : v.isRef = true) : (Cond.isRef (.static C n d)).before args s = true := by
  obtain ⟨cf, kf, fi, f, a, cell, h1, h2, h3, h4, h5, h6, h7, -⟩ := h
  have he : (Term.static C n d).eval args s none [] s = some v := by
    simp [Term.eval, State.fieldNamed?, h1, h2, h4, h5, h6, h7]
  simp only [Cond.before, Cond.holds, Cond.value, he]
  cases v <;> simp_all [Value.isRef]
theorem vx_isRefq {C n d : String} {A : Nat → Prop} {s : State} {args : Array Value} (h : va_Zq C n d A s s.heap) : (Cond.isRef (.static C n d)).before args s = true := by
  rcases h with h | ⟨t, h⟩
  · exact vx_isRef h rfl
  · exact vx_isRef h rfl
/-- the same frame, seen from here: as if the method were called anew in this heap -/
theorem vx_rebase {T : State} (X : Stand p l e R s m args below meth c T locs cells slots) {R' : Room} (hf : R'.frames ≤ R.frames) (hl : R'.locals ≤ R.locals) (hc : cells + R'.cells ≤ R.cells) (hs : slots + R'.slots ≤ R.slots) :
    Stand p l e R' ((T.setVm s.vm).setFrames (.invoking m args :: below)) m args below meth c T [] 0 0 := by
  have htop : (T.setVm s.vm).topJava?.isSome := X.here.top
  have hF : ((T.setVm s.vm).setFrames (.invoking m args :: below)).frames = .invoking m args :: below := State.frames_setFrames _ (State.cur_lt_of_top htop)
  obtain ⟨g₀, hg0⟩ := Option.isSome_iff_exists.mp htop
  obtain ⟨r, hr⟩ := State.topJava?_eq_some.mp hg0
  have hl9 : e.platform.stackLimits (T.setVm s.vm).me = e.platform.stackLimits s.me := X.limits
  have hb9 : (T.setVm s.vm).me.stackBytes = s.me.stackBytes := X.bytes
  refine ⟨X.admits, X.cas, X.clock, hF, ?_, X.hears, X.method, X.code, X.here, X.tail, X.warmed, ?_, ?_, ?_⟩
  · have h := X.room
    have hU : ((T.setVm s.vm).setFrames (.invoking m args :: below)).localsInUse = s.localsInUse := by
      rw [State.localsInUse_invoking hF (meth := meth) (c := c) X.method X.code, State.localsInUse_invoking X.frames X.method X.code]
    simp only [State.hasRoom, Bool.and_eq_true, decide_eq_true_eq] at h ⊢
    obtain ⟨⟨⟨⟨h1, h2, h3, h4, h5, h6⟩, h7⟩, h8⟩, h9⟩ := h
    rw [X.frames, List.length_cons] at h2 h3
    have q1 := X.heapSize
    have q2 := X.used
    simp only [hF, hU, List.length_cons, State.stackLimits_setFrames, State.stackBytes_setFrames, hl9, hb9]
    refine ⟨⟨⟨⟨by omega, by omega, by omega, by omega, by omega, h6⟩, ?_⟩, ?_⟩, X.book⟩
    · show T.heap.size + R'.cells ≤ e.platform.maxCells
      omega
    · show T.slotsUsed + R'.slots ≤ e.platform.maxSlots
      omega
  · rw [State.stackLimits_setFrames]; rfl
  · rw [State.stackBytes_setFrames]; rfl
  · refine ⟨?_, Nat.le_refl _, Nat.le_refl _, ?_, ?_, fun a c9 h9 => ⟨c9, h9, rfl, rfl, fun _ _ => rfl⟩⟩
    · obtain ⟨t, ht, -⟩ := State.frames_cons hr
      show T.setVm s.vm = { ((T.setVm s.vm).setFrames (.invoking m args :: below)).setFrames (T.setVm s.vm).frames with heap := T.heap, slotsUsed := T.slotsUsed }
      rw [State.setFrames_setFrames, State.setFrames_self ht]
      rfl
    · show T.slotsUsed = T.slotsUsed + ((T.heap.toList.drop T.heap.size).map (·.slots.size)).sum
      rw [List.drop_eq_nil_of_le (Nat.le_of_eq Array.length_toList)]
      rfl
    · show ((T.heap.toList.drop T.heap.size).map (·.slots.size)).sum ≤ 0
      rw [List.drop_eq_nil_of_le (Nat.le_of_eq Array.length_toList)]
      exact Nat.le_refl _
/-- 'throw new E()': new; dup; invokespecial; athrow -/
theorem vx_throw0 {cc : ByteArray} {pc : Nat} (hexec : p.tables.exec = Jvm.exec) (hb : c.code = cc) (hl : l.stackTraces = false) {own cls : String} {names : List String} {ik ic mc ms : Nat} {A : Nat → Prop}
    (hown : s.vm.findClass own = some m.cls) (hcls : Bundle.fit cls = true) (hnames : ∀ n ∈ names, Bundle.fit n = true)
    (hk : (Cond.classLink own ik cls).before args s = true) (hini : (Cond.initialized cls).before args s = true) (hat : ∀ w ∈ vx_at0 own ic cls names, w.before args s = true)
    (hgood : ∀ w ∈ Cond.classLink own ik cls :: Cond.initialized cls :: vx_at0 own ic cls names, vx_ot w = true)
    (hU : vx_Zq Bundle.tN "UNASSIGNED_STACK" Bundle.steD A s s.heap) (hN : vx_Zq Bundle.tN "SUPPRESSED_SENTINEL" Bundle.listD A s s.heap) (hS : va_S A s.heap H locs) (hsize : ls.size = c.maxLocals)
    (d0 : decode cc pc = .ok (.new ik, 3)) (d3 : decode cc (pc + 3) = .ok (.dup, 1)) (d4 : decode cc (pc + 4) = .ok (.invokespecial ic, 3)) (d7 : decode cc (pc + 7) = .ok (.athrow, 1))
    (hout : ∀ x ∈ c.exceptionTable.toList, covers x (pc + 7) = false)
    (hRframes : names.length + 3 < R.frames) (hRlocals : (rest.map fun v => v.category).sum + (13 * (names.length + 1) + 42) ≤ R.locals) (hRcells : cells + 1 ≤ R.cells) (hRslots : slots + 6 ≤ R.slots) (hlocks : meth.locks = false)
    (hx : ∀ t : State, s.vm.Alike t.vm → H.size ≤ t.heap.size → (∀ q : Nat, q < H.size → t.heap[q]? = H[q]?) → XC cls s t)
    (hf : ∀ z ∈ locs, free z.base) (hc : cells + 1 ≤ mc) (hs : slots + 6 ≤ ms) :
    W p l e R s m args below meth c H locs cells slots (vx_MQ below Qc XC args s mc ms free) (F0 m pc ls rest) := by
  intro T hT X
  have htr : e.platform.stackTraces = false := (show e.platform.stackTraces = l.stackTraces by rw [X.admits.platform]).trans hl
  have Y := vx_rebase X (R' := { frames := R.frames, locals := R.locals, cells := 1, slots := 6 }) (Nat.le_refl _) (Nat.le_refl _) hRcells hRslots
  obtain ⟨s', hA⟩ : ∃ z, z = (T.setVm s.vm).setFrames (.invoking m args :: below) := ⟨_, rfl⟩
  rw [← hA] at Y
  have hvm : s'.vm = s.vm := by rw [hA]; rfl
  have hhp : s'.heap = H := by rw [hA]; exact hT
  have hW0 : s.WarmedH s'.vm := by rw [hvm]; exact State.WarmedH.refl s
  have hat' : ∀ w ∈ vx_at0 own ic cls names, w.before args s' = true := fun w hw => vx_ot_at hW0 hvm.symm (hgood w (List.mem_cons_of_mem _ (List.mem_cons_of_mem _ hw))) (hat w hw)
  have hk' : (Cond.classLink own ik cls).before args s' = true := vx_ot_at hW0 hvm.symm (hgood _ List.mem_cons_self) hk
  have hini' : (Cond.initialized cls).before args s' = true := vx_ot_at hW0 hvm.symm (hgood _ (List.mem_cons_of_mem _ List.mem_cons_self)) hini
  have hU' : vx_Zq Bundle.tN "UNASSIGNED_STACK" Bundle.steD A s' s'.heap := by rw [hhp]; exact vx_Zq.moved hW0.alike (hU.kept hS.2.1)
  have hN' : vx_Zq Bundle.tN "SUPPRESSED_SENTINEL" Bundle.listD A s' s'.heap := by rw [hhp]; exact vx_Zq.moved hW0.alike (hN.kept hS.2.1)
  have h : ∀ w ∈ Bundle.ownAtoms0 own ic cls names, w.before args s' = true := vx_own hat' (vx_isRefq hU'.1) (vx_isRefq hN'.1) hU'.2.word hN'.2.word
  have hown' : s'.vm.findClass own = some m.cls := by rw [hvm]; exact hown
  have hins : (Cond.instantiable cls 6).before args s' = true := h _ (by simp [Bundle.ownAtoms0])
  obtain ⟨vm₁, cX, kX, hfX, hkX, -, -, X₁, st1⟩ := Y.newCold hexec (own := own) (C := cls) (index := ik) (n := 6) hown' hk' hins hini'
    (g := F0 m pc ls rest) rfl (by rw [hb]; exact d0) (Nat.le_refl _) (Nat.le_refl _)
  generalize hT1 : (T.setVm vm₁).pushCell { cls := cX, slots := kX.instanceTypes.map defaultValue, vm := .none } = T1 at X₁ st1
  have hcat : (Value.ref T.heap.size).category = 1 := rfl
  have hcellA : T1.heap[T.heap.size]? = some (freshCell cX kX) := by rw [← hT1]; exact State.heap_pushCell_size _ _
  have d3' : decode c.code (pc + 3) = .ok (.dup, 1) := by rw [hb]; exact d3
  obtain ⟨U, hsteps, hrun, hend, hW, hsame, ce, hce, hO⟩ := X₁.ctorThrow0 hexec htr (own := own) (cls := cls) (names := names) (ic := ic) hown' hcls hnames h (fun x hx => nomatch hx) hfX hkX hcellA (by rw [hhp, hT]; exact Nat.le_refl _)
    (g := { method := m, pc := pc + 4, locals := ls, stack := .ref T.heap.size :: .ref T.heap.size :: rest, locked := none }) rfl hsize rfl rfl (rest := rest) rfl
    (by rw [hb]; exact d4) (by rw [hb]; exact d7) hout hRframes (by simp only [List.map_cons, List.sum_cons, hcat]; omega) hlocks
  obtain ⟨f1, f2⟩ := vx_frame hsame
  rw [hhp] at f1 f2
  have hWs : s.WarmedH U.vm := State.WarmedH.trans hW0 hW
  have hcl : s.vm.findClass cls = some ce.cls := by
    have h9 := hO.cls
    rw [hvm] at h9
    exact h9
  have hall : s.sameButNew ({ U with vm := s.vm } : State) locs mc ms := by
    subst hA
    obtain ⟨e1, e2⟩ := hsame
    rw [State.setFrames_setFrames] at e1
    have h2 : (T.setVm s.vm).sameButNew ({ U with vm := s.vm } : State) [] (0 + 1) (0 + 6) := ⟨e1, e2⟩
    have h3 := X.same.trans h2
    rw [List.append_nil] at h3
    exact h3.mono hc hs
  refine ⟨U, ?_, .threw T.heap.size, hrun, hend, Or.inr ⟨T.heap.size, rfl, cls, ce, locs, hx U hWs.alike f1 (fun q hq => f2 q hq (fun z hz => nomatch hz)), hce, hO.vm, hcl, hWs, hall, hf⟩⟩
  refine st1 _ ?_
  show Steps p.tables e below (T1.setTop { method := m, pc := pc + 3, locals := ls, stack := .ref T.heap.size :: rest, locked := none }) _
  jvm_step X₁.here [X₁.here.top, hexec, d3', Value.category]
  exact hsteps
/-- 'throw new E("text")': new; dup; ldc; invokespecial; athrow -/
theorem vx_throwS {cc : ByteArray} {pc : Nat} (hexec : p.tables.exec = Jvm.exec) (hb : c.code = cc) (hl : l.stackTraces = false) {own cls text : String} {names : List String} {ik is ic mc ms sa : Nat} {A : Nat → Prop}
    (hown : s.vm.findClass own = some m.cls) (hcls : Bundle.fit cls = true) (hnames : ∀ n ∈ names, Bundle.fit n = true)
    (hk : (Cond.classLink own ik cls).before args s = true) (hini : (Cond.initialized cls).before args s = true) (hstr : vk_R own is text sa s) (hat : ∀ w ∈ vx_atS own ic cls names, w.before args s = true)
    (hgood : ∀ w ∈ Cond.classLink own ik cls :: Cond.initialized cls :: vx_atS own ic cls names, vx_ot w = true)
    (hU : vx_Zq Bundle.tN "UNASSIGNED_STACK" Bundle.steD A s s.heap) (hN : vx_Zq Bundle.tN "SUPPRESSED_SENTINEL" Bundle.listD A s s.heap) (hS : va_S A s.heap H locs) (hsize : ls.size = c.maxLocals)
    (d0 : decode cc pc = .ok (.new ik, 3)) (d3 : decode cc (pc + 3) = .ok (.dup, 1)) (d4 : decode cc (pc + 4) = .ok (.ldc is, 2)) (d6 : decode cc (pc + 6) = .ok (.invokespecial ic, 3)) (d9 : decode cc (pc + 9) = .ok (.athrow, 1))
    (hout : ∀ x ∈ c.exceptionTable.toList, covers x (pc + 9) = false)
    (hRframes : names.length + 3 < R.frames) (hRlocals : (rest.map fun v => v.category).sum + (13 * (names.length + 1) + 43) ≤ R.locals) (hRcells : cells + 1 ≤ R.cells) (hRslots : slots + 6 ≤ R.slots) (hlocks : meth.locks = false)
    (hx : ∀ t : State, s.vm.Alike t.vm → H.size ≤ t.heap.size → (∀ q : Nat, q < H.size → t.heap[q]? = H[q]?) → XC cls s t)
    (hf : ∀ z ∈ locs, free z.base) (hc : cells + 1 ≤ mc) (hs : slots + 6 ≤ ms) :
    W p l e R s m args below meth c H locs cells slots (vx_MQ below Qc XC args s mc ms free) (F0 m pc ls rest) := by
  intro T hT X
  have htr : e.platform.stackTraces = false := (show e.platform.stackTraces = l.stackTraces by rw [X.admits.platform]).trans hl
  have Y := vx_rebase X (R' := { frames := R.frames, locals := R.locals, cells := 1, slots := 6 }) (Nat.le_refl _) (Nat.le_refl _) hRcells hRslots
  obtain ⟨s', hA⟩ : ∃ z, z = (T.setVm s.vm).setFrames (.invoking m args :: below) := ⟨_, rfl⟩
  rw [← hA] at Y
  have hvm : s'.vm = s.vm := by rw [hA]; rfl
  have hhp : s'.heap = H := by rw [hA]; exact hT
  have hW0 : s.WarmedH s'.vm := by rw [hvm]; exact State.WarmedH.refl s
  have hat' : ∀ w ∈ vx_atS own ic cls names, w.before args s' = true := fun w hw => vx_ot_at hW0 hvm.symm (hgood w (List.mem_cons_of_mem _ (List.mem_cons_of_mem _ hw))) (hat w hw)
  have hk' : (Cond.classLink own ik cls).before args s' = true := vx_ot_at hW0 hvm.symm (hgood _ List.mem_cons_self) hk
  have hini' : (Cond.initialized cls).before args s' = true := vx_ot_at hW0 hvm.symm (hgood _ (List.mem_cons_of_mem _ List.mem_cons_self)) hini
  have hU' : vx_Zq Bundle.tN "UNASSIGNED_STACK" Bundle.steD A s' s'.heap := by rw [hhp]; exact vx_Zq.moved hW0.alike (hU.kept hS.2.1)
  have hN' : vx_Zq Bundle.tN "SUPPRESSED_SENTINEL" Bundle.listD A s' s'.heap := by rw [hhp]; exact vx_Zq.moved hW0.alike (hN.kept hS.2.1)
  have h : ∀ w ∈ Bundle.ownAtoms own ic cls names, w.before args s' = true := vx_own hat' (vx_isRefq hU'.1) (vx_isRefq hN'.1) hU'.2.word hN'.2.word
  have hown' : s'.vm.findClass own = some m.cls := by rw [hvm]; exact hown
  have hins : (Cond.instantiable cls 6).before args s' = true := h _ (by simp [Bundle.ownAtoms])
  obtain ⟨vm₁, cX, kX, hfX, hkX, -, -, X₁, st1⟩ := Y.newCold hexec (own := own) (C := cls) (index := ik) (n := 6) hown' hk' hins hini'
    (g := F0 m pc ls rest) rfl (by rw [hb]; exact d0) (Nat.le_refl _) (Nat.le_refl _)
  generalize hT1 : (T.setVm vm₁).pushCell { cls := cX, slots := kX.instanceTypes.map defaultValue, vm := .none } = T1 at X₁ st1
  have hcat : (Value.ref T.heap.size).category = 1 := rfl
  have hcellA : T1.heap[T.heap.size]? = some (freshCell cX kX) := by rw [← hT1]; exact State.heap_pushCell_size _ _
  have d3' : decode c.code (pc + 3) = .ok (.dup, 1) := by rw [hb]; exact d3
  have d4' : decode c.code (pc + 4) = .ok (.ldc is, 2) := by rw [hb]; exact d4
  have hstr' : vk_R own is text sa s' := vk_R.warm hW0 hstr
  obtain ⟨U, hsteps, hrun, hend, hW, hsame, ce, hce, hO⟩ := X₁.ctorThrowS hexec htr (own := own) (cls := cls) (names := names) (ic := ic) hown' hcls hnames h (fun x hx => nomatch hx) hfX hkX hcellA (by rw [hhp, hT]; exact Nat.le_refl _) (msg := .ref sa) rfl
    (g := { method := m, pc := pc + 6, locals := ls, stack := .ref sa :: .ref T.heap.size :: .ref T.heap.size :: rest, locked := none }) rfl hsize rfl rfl (rest := rest) rfl
    (by rw [hb]; exact d6) (by rw [hb]; exact d9) hout hRframes (by simp only [List.map_cons, List.sum_cons, hcat]; omega) hlocks
  obtain ⟨f1, f2⟩ := vx_frame hsame
  rw [hhp] at f1 f2
  have hWs : s.WarmedH U.vm := State.WarmedH.trans hW0 hW
  have hcl : s.vm.findClass cls = some ce.cls := by
    have h9 := hO.cls
    rw [hvm] at h9
    exact h9
  have hall : s.sameButNew ({ U with vm := s.vm } : State) locs mc ms := by
    subst hA
    obtain ⟨e1, e2⟩ := hsame
    rw [State.setFrames_setFrames] at e1
    have h2 : (T.setVm s.vm).sameButNew ({ U with vm := s.vm } : State) [] (0 + 1) (0 + 6) := ⟨e1, e2⟩
    have h3 := X.same.trans h2
    rw [List.append_nil] at h3
    exact h3.mono hc hs
  refine ⟨U, ?_, .threw T.heap.size, hrun, hend, Or.inr ⟨T.heap.size, rfl, cls, ce, locs, hx U hWs.alike f1 (fun q hq => f2 q hq (fun z hz => nomatch hz)), hce, hO.vm, hcl, hWs, hall, hf⟩⟩
  refine st1 _ ?_
  show Steps p.tables e below (T1.setTop { method := m, pc := pc + 3, locals := ls, stack := .ref T.heap.size :: rest, locked := none }) _
  jvm_step X₁.here [X₁.here.top, hexec, d3', Value.category]
  exact X₁.ldcString hexec (own := own) (text := text) (index := is) (a := sa) hown' hstr'.1 hstr'.2
    (g := { method := m, pc := pc + 4, locals := ls, stack := .ref T.heap.size :: .ref T.heap.size :: rest, locked := none }) rfl d4' _ hsteps
/-- 'throw new E("text")', the text by a wide index -/
theorem vx_throwSW {cc : ByteArray} {pc : Nat} (hexec : p.tables.exec = Jvm.exec) (hb : c.code = cc) (hl : l.stackTraces = false) {own cls text : String} {names : List String} {ik is ic mc ms sa : Nat} {A : Nat → Prop}
    (hown : s.vm.findClass own = some m.cls) (hcls : Bundle.fit cls = true) (hnames : ∀ n ∈ names, Bundle.fit n = true)
    (hk : (Cond.classLink own ik cls).before args s = true) (hini : (Cond.initialized cls).before args s = true) (hstr : vk_R own is text sa s) (hat : ∀ w ∈ vx_atS own ic cls names, w.before args s = true)
    (hgood : ∀ w ∈ Cond.classLink own ik cls :: Cond.initialized cls :: vx_atS own ic cls names, vx_ot w = true)
    (hU : vx_Zq Bundle.tN "UNASSIGNED_STACK" Bundle.steD A s s.heap) (hN : vx_Zq Bundle.tN "SUPPRESSED_SENTINEL" Bundle.listD A s s.heap) (hS : va_S A s.heap H locs) (hsize : ls.size = c.maxLocals)
    (d0 : decode cc pc = .ok (.new ik, 3)) (d3 : decode cc (pc + 3) = .ok (.dup, 1)) (d4 : decode cc (pc + 4) = .ok (.ldc_w is, 3)) (d7 : decode cc (pc + 7) = .ok (.invokespecial ic, 3)) (d10 : decode cc (pc + 10) = .ok (.athrow, 1))
    (hout : ∀ x ∈ c.exceptionTable.toList, covers x (pc + 10) = false)
    (hRframes : names.length + 3 < R.frames) (hRlocals : (rest.map fun v => v.category).sum + (13 * (names.length + 1) + 43) ≤ R.locals) (hRcells : cells + 1 ≤ R.cells) (hRslots : slots + 6 ≤ R.slots) (hlocks : meth.locks = false)
    (hx : ∀ t : State, s.vm.Alike t.vm → H.size ≤ t.heap.size → (∀ q : Nat, q < H.size → t.heap[q]? = H[q]?) → XC cls s t)
    (hf : ∀ z ∈ locs, free z.base) (hc : cells + 1 ≤ mc) (hs : slots + 6 ≤ ms) :
    W p l e R s m args below meth c H locs cells slots (vx_MQ below Qc XC args s mc ms free) (F0 m pc ls rest) := by
  intro T hT X
  have htr : e.platform.stackTraces = false := (show e.platform.stackTraces = l.stackTraces by rw [X.admits.platform]).trans hl
  have Y := vx_rebase X (R' := { frames := R.frames, locals := R.locals, cells := 1, slots := 6 }) (Nat.le_refl _) (Nat.le_refl _) hRcells hRslots
  obtain ⟨s', hA⟩ : ∃ z, z = (T.setVm s.vm).setFrames (.invoking m args :: below) := ⟨_, rfl⟩
  rw [← hA] at Y
  have hvm : s'.vm = s.vm := by rw [hA]; rfl
  have hhp : s'.heap = H := by rw [hA]; exact hT
  have hW0 : s.WarmedH s'.vm := by rw [hvm]; exact State.WarmedH.refl s
  have hat' : ∀ w ∈ vx_atS own ic cls names, w.before args s' = true := fun w hw => vx_ot_at hW0 hvm.symm (hgood w (List.mem_cons_of_mem _ (List.mem_cons_of_mem _ hw))) (hat w hw)
  have hk' : (Cond.classLink own ik cls).before args s' = true := vx_ot_at hW0 hvm.symm (hgood _ List.mem_cons_self) hk
  have hini' : (Cond.initialized cls).before args s' = true := vx_ot_at hW0 hvm.symm (hgood _ (List.mem_cons_of_mem _ List.mem_cons_self)) hini
  have hU' : vx_Zq Bundle.tN "UNASSIGNED_STACK" Bundle.steD A s' s'.heap := by rw [hhp]; exact vx_Zq.moved hW0.alike (hU.kept hS.2.1)
  have hN' : vx_Zq Bundle.tN "SUPPRESSED_SENTINEL" Bundle.listD A s' s'.heap := by rw [hhp]; exact vx_Zq.moved hW0.alike (hN.kept hS.2.1)
  have h : ∀ w ∈ Bundle.ownAtoms own ic cls names, w.before args s' = true := vx_own hat' (vx_isRefq hU'.1) (vx_isRefq hN'.1) hU'.2.word hN'.2.word
  have hown' : s'.vm.findClass own = some m.cls := by rw [hvm]; exact hown
  have hins : (Cond.instantiable cls 6).before args s' = true := h _ (by simp [Bundle.ownAtoms])
  obtain ⟨vm₁, cX, kX, hfX, hkX, -, -, X₁, st1⟩ := Y.newCold hexec (own := own) (C := cls) (index := ik) (n := 6) hown' hk' hins hini'
    (g := F0 m pc ls rest) rfl (by rw [hb]; exact d0) (Nat.le_refl _) (Nat.le_refl _)
  generalize hT1 : (T.setVm vm₁).pushCell { cls := cX, slots := kX.instanceTypes.map defaultValue, vm := .none } = T1 at X₁ st1
  have hcat : (Value.ref T.heap.size).category = 1 := rfl
  have hcellA : T1.heap[T.heap.size]? = some (freshCell cX kX) := by rw [← hT1]; exact State.heap_pushCell_size _ _
  have d3' : decode c.code (pc + 3) = .ok (.dup, 1) := by rw [hb]; exact d3
  have d4' : decode c.code (pc + 4) = .ok (.ldc_w is, 3) := by rw [hb]; exact d4
  have hstr' : vk_R own is text sa s' := vk_R.warm hW0 hstr
  obtain ⟨U, hsteps, hrun, hend, hW, hsame, ce, hce, hO⟩ := X₁.ctorThrowS hexec htr (own := own) (cls := cls) (names := names) (ic := ic) hown' hcls hnames h (fun x hx => nomatch hx) hfX hkX hcellA (by rw [hhp, hT]; exact Nat.le_refl _) (msg := .ref sa) rfl
    (g := { method := m, pc := pc + 7, locals := ls, stack := .ref sa :: .ref T.heap.size :: .ref T.heap.size :: rest, locked := none }) rfl hsize rfl rfl (rest := rest) rfl
    (by rw [hb]; exact d7) (by rw [hb]; exact d10) hout hRframes (by simp only [List.map_cons, List.sum_cons, hcat]; omega) hlocks
  obtain ⟨f1, f2⟩ := vx_frame hsame
  rw [hhp] at f1 f2
  have hWs : s.WarmedH U.vm := State.WarmedH.trans hW0 hW
  have hcl : s.vm.findClass cls = some ce.cls := by
    have h9 := hO.cls
    rw [hvm] at h9
    exact h9
  have hall : s.sameButNew ({ U with vm := s.vm } : State) locs mc ms := by
    subst hA
    obtain ⟨e1, e2⟩ := hsame
    rw [State.setFrames_setFrames] at e1
    have h2 : (T.setVm s.vm).sameButNew ({ U with vm := s.vm } : State) [] (0 + 1) (0 + 6) := ⟨e1, e2⟩
    have h3 := X.same.trans h2
    rw [List.append_nil] at h3
    exact h3.mono hc hs
  refine ⟨U, ?_, .threw T.heap.size, hrun, hend, Or.inr ⟨T.heap.size, rfl, cls, ce, locs, hx U hWs.alike f1 (fun q hq => f2 q hq (fun z hz => nomatch hz)), hce, hO.vm, hcl, hWs, hall, hf⟩⟩
  refine st1 _ ?_
  show Steps p.tables e below (T1.setTop { method := m, pc := pc + 3, locals := ls, stack := .ref T.heap.size :: rest, locked := none }) _
  jvm_step X₁.here [X₁.here.top, hexec, d3', Value.category]
  exact X₁.ldcStringW hexec (own := own) (text := text) (index := is) (a := sa) hown' hstr'.1 hstr'.2
    (g := { method := m, pc := pc + 4, locals := ls, stack := .ref T.heap.size :: .ref T.heap.size :: rest, locked := none }) rfl d4' _ hsteps
end Ends
section Bodies
variable {l : Launch}
theorem vx_ofW {y : MethodName} {ws ws' : List Cond} {rm : Room} {Pc : Array Value → State → Prop} {Qc : Array Value → State → Outcome → State → Prop} {XC : String → State → State → Prop} {mc ms : Nat} {free : Addr → Prop} {cc : ByteArray} {maxL : Nat} {ret : Option FieldType}
    (hy : plainName y.cls = true) (hw : ws = Cond.code y cc maxL ret :: ws')
    (body : ∀ p e s m args below meth c s₁, BodyLoose p l y (headSpec ws rm) cc maxL ret e s m args below meth c s₁ → c.maxLocals = maxL → (∀ x ∈ c.exceptionTable.toList, False) → Pc args s →
      W p l e (headSpec ws rm).room s m args below meth c s.heap [] 0 0 (vx_MQ below Qc XC args s mc ms free) (entryFrame m args maxL)) : vx_Met l y ws rm Pc Qc XC mc ms free := by
  refine MetFree.of_bodyS (code := cc) (maxLocals := maxL) (ret := ret) hy ?_ ?_
  · intro args s m h hn
    obtain ⟨meth, c, h1, h2, h3, h4, h5, h6, -, -⟩ := Cond.code_spec hn (atoms_spec (ws := ws) h _ (by rw [hw]; exact List.mem_cons_self))
    exact ⟨meth, c, h1, h2, h3, h4, h5, h6⟩
  · intro p e s m args below meth c s₁ B hml hP _
    have hh0 : s₁.heap = s.heap := by rw [B.state]; rfl
    have ht : ∀ x ∈ c.exceptionTable.toList, False := by
      obtain ⟨meth9, c9, h1, h2, -, -, -, -, h7, -⟩ := Cond.code_spec B.named (atoms_spec (ws := ws) B.pre _ (by rw [hw]; exact List.mem_cons_self))
      cases Option.some.inj (h1.symm.trans B.method)
      cases Option.some.inj (h2.symm.trans (Stand.of_body B).code)
      intro x hx
      rw [Array.isEmpty_iff.mp h7] at hx
      cases hx
    obtain ⟨t, a1, o, b1, b2, b3⟩ := body p e s m args below meth c s₁ B hml ht hP s₁ hh0 (Stand.of_body B)
    exact ⟨t, o, a1, b1, b2, b3⟩
/-- the table of a body with handlers -/
theorem vx_table {p : Program} {x y : MethodName} {S : Spec} {cc bytes : ByteArray} {maxL maxL' : Nat} {ret ret' : Option FieldType} {e : Env} {s s₁ : State} {m : MethodId} {args : Array Value} {below : List Frame} {meth : Method} {c : Code} {hh : List (Nat × Nat × Nat × Nat)}
    (B : BodyLoose p l y S cc maxL ret e s m args below meth c s₁) (h : (Cond.codeWith y bytes maxL' ret' hh).before args s = true) : c.exceptionTable.toList = tableOf hh := by
  obtain ⟨m9, meth9, c9, hn9, h1, h2, -, -, h6, -⟩ := Cond.codeWith_spec h
  cases Option.some.inj (hn9.symm.trans B.named)
  cases Option.some.inj (h1.symm.trans B.method)
  cases Option.some.inj (h2.symm.trans (Stand.of_body B).code)
  rw [← h6, table_eq]
end Bodies
end VXA
/-! ===== END ===== -/
/-! ===== BEGIN a static call of a method with an exception table ===== -/
section VXS
variable {p : Program} {l : Launch} {e : Env} {R : Room} {s : State} {m : MethodId} {args : Array Value} {below : List Frame} {meth : Method} {c : Code} {T : State} {H : Heap} {locs : List Loc} {cells slots : Nat}
abbrev vx_CSW (R : Room) (s : State) (args : Array Value) (own : String) (index : Nat) (y : MethodName) (bytes : ByteArray) (maxL : Nat) (ret : Option FieldType) (hh : List (Nat × Nat × Nat × Nat)) (ws : List Cond) (rm : Room) (mc ms n : Nat) : Prop :=
  (rm.cells = mc ∧ rm.slots = ms ∧ rm.frames + 1 ≤ R.frames ∧ 8 + (maxL + 11) + rm.locals ≤ R.locals ∧ (∀ w ∈ ws, ∀ (a' : Array Value) (U : State), s.WarmedH U.vm → w.before a' U = true) ∧ Cond.codeWith y bytes maxL ret hh ∈ ws) ∧
  (Cond.codeWith y bytes maxL ret hh).before args s = true ∧ (Cond.initialized y.cls).before args s = true ∧ (y.cls ≠ "java/lang/invoke/MethodHandle" ∧ y.cls ≠ "java/lang/invoke/VarHandle") ∧
  (∀ sig, parseMethodDescriptor y.desc = some sig → n = sig.parameters.length) ∧ (Cond.methodLink own index y).before args s = true ∧ (Cond.static y).before args s = true
theorem vx_cwSW {own : String} {index maxL mc ms : Nat} {y : MethodName} {bytes : ByteArray} {ret : Option FieldType} {hh : List (Nat × Nat × Nat × Nat)} {Ts ws ws' : List Cond} {rm : Room} (n : Nat) (ht : ∀ w ∈ Ts, w.before args s = true) (hT : GoodIn Ts (va_wsS own index y ws)) (hw : ws = Cond.codeWith y bytes maxL ret hh :: ws') (hrc : rm.cells = mc) (hrs : rm.slots = ms)
    (hd : y.cls ≠ "java/lang/invoke/MethodHandle" ∧ y.cls ≠ "java/lang/invoke/VarHandle" ∧ (parseMethodDescriptor y.desc).map (fun d => d.parameters.length) = some n) (hR : rm.frames + 1 ≤ R.frames ∧ 8 + (maxL + 11) + rm.locals ≤ R.locals) :
    vx_CSW R s args own index y bytes maxL ret hh ws rm mc ms n := by
  have ok : ∀ w ∈ va_wsS own index y ws, w.before args s = true := fun w h => ht w (hT w h).1
  have hG : GoodIn Ts ws := fun w h => hT w (by unfold va_wsS; exact List.mem_append_right _ h)
  have hc : Cond.codeWith y bytes maxL ret hh ∈ ws := by rw [hw]; exact List.mem_cons_self
  refine ⟨⟨hrc, hrs, hR.1, hR.2, pay_in ht hG, hc⟩, ht _ (hG _ hc).1, ok _ (by simp [va_wsS]), ⟨hd.1, hd.2.1⟩, fun sig h => ?_, ok _ (by simp [va_wsS]), ok _ (by simp [va_wsS])⟩
  have h2 := hd.2.2
  rw [h] at h2
  exact (Option.some.inj h2).symm
theorem vx_callSW (X : Stand p l e R s m args below meth c T locs cells slots) (hexec : p.tables.exec = Jvm.exec) {own : String} {index : Nat} {y : MethodName} {bytes : ByteArray} {maxL : Nat} {ret : Option FieldType} {hh : List (Nat × Nat × Nat × Nat)}
    (hown : s.vm.findClass own = some m.cls) (hlink : (Cond.methodLink own index y).before args s = true) (hstat : (Cond.static y).before args s = true) (hinit : (Cond.initialized y.cls).before args s = true)
    (hcode : (Cond.codeWith y bytes maxL ret hh).before args s = true) (hy : y.cls ≠ "java/lang/invoke/MethodHandle" ∧ y.cls ≠ "java/lang/invoke/VarHandle")
    {W9 : Nat} {Pre : Pt → Array Value → Prop} {Post : Pt → Array Value → Option Value → Pt → Prop} (hK : Back l R p e below s args y 3 W9 Pre Post)
    {g : JFrame} (hg : g.method = m) (hsize : g.locals.size = c.maxLocals) {argsL rest : List Value} (hlen : ∀ sig, parseMethodDescriptor y.desc = some sig → argsL.length = sig.parameters.length)
    (hstack : g.stack = argsL.reverse ++ rest) (hW : 2 * g.monitorRoom + (rest.map fun v => v.category).sum ≤ W9) (hdg : decode c.code g.pc = .ok (.invokestatic index, 3))
    (hpre : ∀ vm₁, s.WarmedH vm₁ → Pre ⟨T.setVm vm₁, locs, cells, slots⟩ argsL.toArray) :
    ∃ (v : Option Value) (vm₁ : Vm) (B : Pt), s.WarmedH vm₁ ∧ Stand p l e R s m args below meth c B.U B.locs B.cells B.slots ∧ Post ⟨T.setVm vm₁, locs, cells, slots⟩ argsL.toArray v B ∧
      ∀ target, Steps p.tables e below (B.U.setTop { g with pc := g.pc + 3, stack := v.toList ++ rest }) target → Steps p.tables e below (T.setTop g) target := by
  obtain ⟨mk, methM, cM, hnamed, hmethM, -, -, -, -, -, -, hsigM⟩ := Cond.codeWith_spec hcode
  have hstatic : methM.isStatic = true := Cond.static_spec hnamed hmethM hstat
  obtain ⟨kP, hkP, -⟩ := className_of_methodNamed hnamed
  have hinitP : kP.init = .initialized := Cond.initialized_spec (findClass_of_methodNamed hnamed) hkP hinit
  obtain ⟨vm₁, X₁, hstep₁⟩ := X.invokestatic hexec hown hlink hnamed hmethM hstatic hkP hinitP hy (g := g) hg (argsL := argsL) (rest := rest) (hlen _ hsigM) hstack hdg
  obtain ⟨v, B, X', hpost, hsteps⟩ := hK m meth c ⟨T.setVm vm₁, locs, cells, slots⟩ { g with stack := rest } (.invokestatic index) mk argsL.toArray X₁ hg hsize hdg hW (X₁.named hnamed) (hpre vm₁ X₁.warmed)
  exact ⟨v, vm₁, B, X₁.warmed, X', hpost, fun target h => hstep₁ _ fun acts => by rw [doInvoke_state]; exact hsteps.trans h⟩
theorem vx_runSW {y : MethodName} {bytes cc : ByteArray} {maxL nL mc ms n index : Nat} {ret : Option FieldType} {hh : List (Nat × Nat × Nat × Nat)} {ws : List Cond} {rm : Room} {Pc : Array Value → State → Prop} {Qc : Array Value → State → Outcome → State → Prop} {free : Addr → Prop} {Ts : List Cond} {own : String} {As rest : List Value} {g : JFrame}
    (S : CallFix p m c cc nL s args Ts own) (hM : Met l y ws rm Pc Qc mc ms free) (cw : vx_CSW R s args own index y bytes maxL ret hh ws rm mc ms n) (hp : PreS s H Pc As)
    (hg : g.method = m) (hn : As.length = n) (hsize : g.locals.size = nL) (hstack : g.stack = As.reverse ++ rest) (hW : 2 * g.monitorRoom + (rest.map fun v => v.category).sum ≤ 8) (hdg : decode cc g.pc = .ok (.invokestatic index, 3)) (hf : cells + mc ≤ R.cells ∧ slots + ms ≤ R.slots) :
    va_Run p l e R s m args below meth c H locs cells slots mc ms g rest (Qc As.toArray) (free) := by
  obtain ⟨⟨hrc, hrs, hfr, hlo, hws, hcw⟩, hcode, hini, hy, hlen, hl, hstt⟩ := cw
  have hK : Back l R p e below s args y 3 8 (PreOf R mc ms Pc) (PostOf Qc mc ms free) := va_backW (hh := hh) (bytes := bytes) (maxL := maxL) (ret := ret) hM hp.1 hrc hrs hfr hlo hws hcw (fun a' U hW => word_at hW (Or.inl (by first | rfl | simp [Cond.onTables, Cond.keeps, Cond.steady])) hini)
  obtain ⟨hx, hb, hml, ho, -⟩ := S
  intro T hT X
  obtain ⟨v, vm₁, ⟨U', l2, c2, s2⟩, hW₁, X', ⟨g', mk, t, L, e1, e2, hq, h1, hL, h2, h3⟩, st⟩ := vx_callSW X hx (hh := hh) (bytes := bytes) (maxL := maxL) (ret := ret) ho hl hstt hini hcode hy hK hg (hsize.trans hml.symm) (argsL := As) (rest := rest) (fun sig h => hn.trans (hlen sig h)) hstack hW (by rw [hb]; exact hdg)
    (fun vm₁ hW₁ => ⟨hf.1, hf.2, hp.2 (T.setVm vm₁) hT hW₁⟩)
  dsimp only [Pt.U, Pt.locs, Pt.cells, Pt.slots] at X' e1 e2 h1 h2 h3 st
  subst h1; subst h2; subst h3
  exact ⟨v, (T.setVm vm₁).calling g' mk As.toArray, t, U', L, hT, X', hL, e1, e2, hq, st⟩
/-- not caught here, past rows that name other classes: it goes on to the caller -/
theorem vx_outP {p : Program} {l : Launch} {e : Env} {R : Room} {s : State} {m : MethodId} {args : Array Value} {below : List Frame} {meth : Method} {c : Code} {H : Heap} {locs : List Loc} {cells slots : Nat} {free : Addr → Prop} {ls : Array Slot} {rest : List Value} {Qc : Array Value → State → Outcome → State → Prop} {XC : String → State → State → Prop}
    {pc : Nat} {own E : String} {ce : Cell} {q : Addr} {mc ms : Nat} (hown : s.vm.findClass own = some m.cls) (hlocks : meth.locks = false)
    (hpass : ∀ z ∈ c.exceptionTable.toList, covers z pc = false ∨ (z.catchType ≠ 0 ∧ ∃ nm : String, (Cond.classLink own z.catchType nm).before args s = true ∧ va_Nc E nm s)) (hcell : H[q]? = some ce) (hv : ce.vm = .none) (hcl : s.vm.findClass E = some ce.cls)
    (hx : ∀ t : State, t.heap = H → s.vm.Alike t.vm → XC E s t) (hf : ∀ z ∈ locs, free z.base) (hc : cells ≤ mc) (hs : slots ≤ ms) :
    vx_W p l e R s m args below meth c H locs cells slots (vx_MQ below Qc XC args s mc ms free) (F0 m pc ls rest) q := by
  intro T hT X
  have hpl : e.platform.magicAccessors = ({} : Platform).magicAccessors := by rw [X.admits.platform]
  obtain ⟨vm', hW', X', st⟩ := X.outThrough hlocks q (g := F0 m pc ls rest) rfl rfl rfl (cell := ce) (by rw [hT]; exact hcell) (by rw [hv]; rfl)
    (by obtain ⟨k9, h9, -⟩ := Vm.findClass_spec hcl; exact ⟨k9, h9⟩) (fun z hz => by
      rcases hpass z hz with h | ⟨hz0, nm, hl1, hn1⟩
      · exact Or.inl h
      · obtain ⟨c6, hc6, hcl6⟩ := Cond.classLink_spec hown hl1 e.platform hpl
        obtain ⟨a8, b8, h1, h2, h3⟩ := hn1
        cases Option.some.inj (h1.symm.trans hcl)
        cases Option.some.inj (h2.symm.trans hc6)
        exact Or.inr ⟨hz0, _, hcl6, h3⟩)
  obtain ⟨g₀, hfr⟩ := X'.frames_eq
  have hcell9 : ((T.setVm vm').setFrames (.throwing q :: below)).heap[q]? = some ce := by
    show T.heap[q]? = some ce
    rw [hT]; exact hcell
  have hend : Ended ((T.setVm vm').setFrames (.throwing q :: below)) below (.threw q) := State.frames_setFrames _ (State.cur_lt_of_frames hfr)
  refine ⟨(T.setVm vm').setFrames (.throwing q :: below), ?_, .threw q, X'.here.running, hend, Or.inr ⟨q, rfl, E, ce, locs, hx _ hT (X'.ends _).1.alike, hcell9, hv, hcl, (X'.ends _).1, (X'.ends _).2.mono hc hs, hf⟩⟩
  rw [X.pushThrowing_eq]
  exact st
/-- a thing of a world lies in the heap -/
theorem vx_lt {D : va_G} {cl : List vw_C} {ws : va_W} {H1 : Heap} (h : va_P D cl ws H1) {k : Nat} {q : Nat × va_E} (hk : ws[k]? = some q) : q.1 < H1.size := (h k q hk).lt
end VXS
/-! ===== END ===== -/
/-! ===== BEGIN methods with a table of their own: called by a name, returning or throwing ===== -/
section VXH
/-! vx_backW, vx_callVX, vx_callSX, vx_callVW, vx_runVW, vx_runVX, vx_runSX, vx_ofWH follow the same proofs as their sisters above (Free/Laws.lean, Shelf42/LK1.lean); vx_outP calls Shelf42/NT130.lean (outThrough). -/
section
variable {l : Launch} {R : Room} {p : Program} {e : Env} {below : List Frame} {s : State} {sargs : Array Value} {y : MethodName} {len W9 : Nat}
theorem vx_backW {ws : List Cond} {rm : Room} {Pc : Array Value → State → Prop} {Qc : Array Value → State → Outcome → State → Prop} {XC : String → State → State → Prop} {mc ms : Nat} {free : Addr → Prop} {bytes : ByteArray} {maxL : Nat} {ret : Option FieldType} {hh : List (Nat × Nat × Nat × Nat)}
    (hM : vx_Met l y ws rm Pc Qc XC mc ms free) (hblind : FrameBlind Pc) (hrc : rm.cells = mc) (hrs : rm.slots = ms)
    (hframes : rm.frames + 1 ≤ R.frames) (hlocals : W9 + (maxL + 11) + rm.locals ≤ R.locals)
    (hws : ∀ w ∈ ws, ∀ a' U, s.WarmedH U.vm → w.before a' U = true) (hcode : Cond.codeWith y bytes maxL ret hh ∈ ws) (hinit : ∀ a' U, s.WarmedH U.vm → (Cond.initialized y.cls).before a' U = true) :
    vx_Back l R p e below s sargs y len W9 (PreOf R mc ms Pc) (PostOf Qc mc ms free) (vx_Post XC mc ms free) := by
  intro m meth c A g ig mk a X hg hsize hdg hW hn hp
  have h1 : (headSpec ws rm).pre.before a A.U = true := atoms_intro fun w hw => hws w hw _ _ X.warmed
  have h2 : (Cond.codeWith y bytes maxL ret hh).before a A.U = true := hws _ hcode _ _ X.warmed
  have h3 : (Cond.initialized y.cls).before a A.U = true := hinit _ _ X.warmed
  have h4 : A.cells + (headSpec ws rm).room.cells ≤ R.cells := by rw [show (headSpec ws rm).room.cells = mc from hrc]; exact hp.1
  have h5 : A.slots + (headSpec ws rm).room.slots ≤ R.slots := by rw [show (headSpec ws rm).room.slots = ms from hrs]; exact hp.2.1
  have hPc : Pc a (A.U.calling g mk a) := hblind _ _ _ _ hp.2.2
  obtain ⟨U, Ls, c0, s0⟩ := A
  dsimp only [Pt.U, Pt.locs, Pt.cells, Pt.slots] at h1 h2 h3 h4 h5 X hn hPc ⊢
  obtain ⟨m9, methY, cY, hn9, hmY, hcY, -, hlY, -⟩ := Cond.codeWith_spec h2
  cases Option.some.inj (hn9.symm.trans hn)
  obtain ⟨kY, hkY, -⟩ := className_of_methodNamed hn
  have hinitY : kY.init = .initialized := Cond.initialized_spec (findClass_of_methodNamed hn) hkY h3
  have h : At U g.method c below := by rw [hg]; exact X.here
  have hlocals9 : W9 + (maxL + 11) + (headSpec ws rm).room.locals ≤ R.locals := hlocals
  have happ : (headSpec ws rm).appliesLoose y e.platform (U.calling g mk a) = true :=
    Spec.appliesLoose_calling (g := g) h hdg hn hkY hinitY
      (X.room_calling (g := g) (R' := (headSpec ws rm).room) hsize hmY hcY hframes (by rw [hlY]; omega) h4 h5) h1
  obtain ⟨mid, hmid⟩ := h.above
  have hfr : (U.setTop g).frames = (.java g :: mid) ++ below := by rw [State.frames_setTop' g h.top, hmid]; rfl
  obtain ⟨o, s₂, hsteps, -, hend, hq⟩ := Steps.callFree hM p X.admits X.cas X.clock (acts := []) hfr happ hPc trivial
  have hq' : vx_Q Qc XC mc ms free a (U.calling g mk a) o s₂ := hq
  rw [State.frames_setTop' g h.top] at hend
  obtain ⟨g₀, hg0⟩ := Option.isSome_iff_exists.mp h.top
  obtain ⟨r, hr⟩ := State.topJava?_eq_some.mp hg0
  have hr' : (({ U with heap := s₂.heap, slotsUsed := s₂.slotsUsed } : State).setVm s₂.vm).frames = .java g₀ :: r := hr
  rcases hq' with ⟨hqc, L, hfe, hL⟩ | ⟨q, rfl, E, ce, L, hx, hce, hcv, hcl, hW₂, hsm, hL⟩
  · obtain ⟨⟨v, rfl⟩, hW₂, e2, q2, q3, q4, q5, q6⟩ := id hfe
    have e3 : s₂ = ({ (U.calling g mk a).setFrames s₂.frames with heap := s₂.heap, slotsUsed := s₂.slotsUsed } : State).setVm s₂.vm := by
      have : s₂ = ({ s₂ with vm := (U.calling g mk a).vm } : State).setVm s₂.vm := rfl
      rw [e2] at this
      exact this
    obtain ⟨c₂, i₂, len₂, hc₂, hd₂, hf₂⟩ := hend
    have hW' : U.WarmedH s₂.vm := hW₂
    have hcc : c₂ = c := by
      have h1 : s₂.code? g.method = U.code? g.method := by
        rw [State.code?_eq, State.code?_eq, hW'.alike.method?]
      exact Option.some.inj (hc₂.symm.trans (h1.trans h.code))
    subst hcc
    have hlen : len₂ = len := by rw [hdg] at hd₂; cases hd₂; rfl
    subst hlen
    have hs₂ : s₂ = (({ U with heap := s₂.heap, slotsUsed := s₂.slotsUsed } : State).setVm s₂.vm).setTop { g with pc := g.pc + len₂, stack := v.toList ++ g.stack } := by
      refine e3.trans ?_
      rw [hf₂, State.calling_eq h.top, State.setFrames_setFrames, State.setTop_of_frames _ hr', hr]
      rfl
    have hsame : U.sameButNew ({ U with heap := s₂.heap, slotsUsed := s₂.slotsUsed } : State) L mc ms := by
      refine ⟨?_, q2, q3, q4, q5, q6⟩
      obtain ⟨t, ht, -⟩ := State.frames_cons hr
      show ({ U with heap := s₂.heap, slotsUsed := s₂.slotsUsed } : State) = { U.setFrames U.frames with heap := s₂.heap, slotsUsed := s₂.slotsUsed }
      rw [State.setFrames_self ht]
    subst hg
    refine Or.inl ⟨v, ⟨(({ U with heap := s₂.heap, slotsUsed := s₂.slotsUsed } : State).setVm s₂.vm), Ls ++ L, c0 + mc, s0 + ms⟩,
      ⟨X.admits, X.cas, X.clock, X.frames, X.room, X.hears, X.method, X.code, (X.here.setHeapUsed s₂.heap s₂.slotsUsed).setVm hW'.alike, X.tail, State.WarmedH.trans X.warmed hW', X.limits, X.bytes, X.same.trans (hsame.setVm s.vm)⟩,
      ⟨g, mk, s₂, L, rfl, rfl, hqc, rfl, hL, rfl, rfl⟩, ?_⟩
    show Steps p.tables e below _ ((({ U with heap := s₂.heap, slotsUsed := s₂.slotsUsed } : State).setVm s₂.vm).setTop { g with pc := g.pc + len₂, stack := v.toList ++ g.stack })
    rw [← hs₂]
    exact hsteps
  · obtain ⟨e2, q2, q3, q4, q5, q6⟩ := id hsm
    have e3 : s₂ = ({ (U.calling g mk a).setFrames s₂.frames with heap := s₂.heap, slotsUsed := s₂.slotsUsed } : State).setVm s₂.vm := by
      have : s₂ = ({ s₂ with vm := (U.calling g mk a).vm } : State).setVm s₂.vm := rfl
      rw [e2] at this
      exact this
    have hf₂ : s₂.frames = .throwing q :: .java g :: U.frames.tail := hend
    have hW' : U.WarmedH s₂.vm := hW₂
    have hs₂ : s₂ = ((({ U with heap := s₂.heap, slotsUsed := s₂.slotsUsed } : State).setVm s₂.vm).setTop g).pushFrame (.throwing q) := by
      refine e3.trans ?_
      rw [hf₂, State.calling_eq h.top, State.setFrames_setFrames, State.pushFrame, State.frames_setTop _ hr', State.setTop_of_frames _ hr', State.setFrames_setFrames, hr]
      rfl
    have hsame : U.sameButNew ({ U with heap := s₂.heap, slotsUsed := s₂.slotsUsed } : State) L mc ms := by
      refine ⟨?_, q2, q3, q4, q5, q6⟩
      obtain ⟨t, ht, -⟩ := State.frames_cons hr
      show ({ U with heap := s₂.heap, slotsUsed := s₂.slotsUsed } : State) = { U.setFrames U.frames with heap := s₂.heap, slotsUsed := s₂.slotsUsed }
      rw [State.setFrames_self ht]
    subst hg
    refine Or.inr ⟨q, ⟨(({ U with heap := s₂.heap, slotsUsed := s₂.slotsUsed } : State).setVm s₂.vm), Ls ++ L, c0 + mc, s0 + ms⟩,
      ⟨X.admits, X.cas, X.clock, X.frames, X.room, X.hears, X.method, X.code, (X.here.setHeapUsed s₂.heap s₂.slotsUsed).setVm hW'.alike, X.tail, State.WarmedH.trans X.warmed hW', X.limits, X.bytes, X.same.trans (hsame.setVm s.vm)⟩,
      ⟨g, mk, s₂, L, E, ce, rfl, rfl, hx, hce, hcv, hcl, rfl, hL, rfl, rfl⟩, ?_⟩
    show Steps p.tables e below _ (((({ U with heap := s₂.heap, slotsUsed := s₂.slotsUsed } : State).setVm s₂.vm).setTop g).pushFrame (.throwing q))
    rw [← hs₂]
    exact hsteps
end
variable {p : Program} {l : Launch} {e : Env} {R : Room} {s : State} {m : MethodId} {args : Array Value} {below : List Frame} {meth : Method} {c : Code} {T : State} {H : Heap} {locs : List Loc} {cells slots : Nat}
theorem vx_callVX (X : Stand p l e R s m args below meth c T locs cells slots) (hexec : p.tables.exec = Jvm.exec) {own C : String} {index : Nat} {y : MethodName} {bytes : ByteArray} {maxL : Nat} {ret : Option FieldType} {hh : List (Nat × Nat × Nat × Nat)}
    (hown : s.vm.findClass own = some m.cls) (hlink : (Cond.methodLink own index y).before args s = true) (hinst : (Cond.instanceMethod y).before args s = true) (hsel : (Cond.selects C y y).before args s = true)
    (hcode : (Cond.codeWith y bytes maxL ret hh).before args s = true) (hy : y.cls ≠ "java/lang/invoke/MethodHandle" ∧ y.cls ≠ "java/lang/invoke/VarHandle")
    {W9 : Nat} {Pre : Pt → Array Value → Prop} {Post : Pt → Array Value → Option Value → Pt → Prop} {PostX : Pt → Array Value → Addr → Pt → Prop} (hK : vx_Back l R p e below s args y 3 W9 Pre Post PostX)
    {b : Addr} {cellB : Cell} (hcell : T.heap[b]? = some cellB) (hobj : cellB.vm.isStatics = false) (hcls : s.vm.findClass C = some cellB.cls)
    {g : JFrame} (hg : g.method = m) (hsize : g.locals.size = c.maxLocals) {argsL rest : List Value} (hlen : ∀ sig, parseMethodDescriptor y.desc = some sig → argsL.length = sig.parameters.length)
    (hstack : g.stack = argsL.reverse ++ .ref b :: rest) (hW : 2 * g.monitorRoom + (rest.map fun v => v.category).sum ≤ W9) (hdg : decode c.code g.pc = .ok (.invokevirtual index, 3))
    (hpre : ∀ vm₁, s.WarmedH vm₁ → Pre ⟨T.setVm vm₁, locs, cells, slots⟩ (Value.ref b :: argsL).toArray) :
    (∃ (v : Option Value) (vm₁ : Vm) (B : Pt), s.WarmedH vm₁ ∧ Stand p l e R s m args below meth c B.U B.locs B.cells B.slots ∧ Post ⟨T.setVm vm₁, locs, cells, slots⟩ (Value.ref b :: argsL).toArray v B ∧
      ∀ target, Steps p.tables e below (B.U.setTop { g with pc := g.pc + 3, stack := v.toList ++ rest }) target → Steps p.tables e below (T.setTop g) target) ∨
    (∃ (q : Addr) (vm₁ : Vm) (B : Pt), s.WarmedH vm₁ ∧ Stand p l e R s m args below meth c B.U B.locs B.cells B.slots ∧ PostX ⟨T.setVm vm₁, locs, cells, slots⟩ (Value.ref b :: argsL).toArray q B ∧
      Steps p.tables e below (T.setTop g) ((B.U.setTop { g with stack := rest }).pushFrame (.throwing q))) := by
  obtain ⟨mk, methM, hnamed, hmethM, hstM, habM⟩ := Cond.instanceMethod_spec hinst
  obtain ⟨m8, methM', cM, hn8, hmethM', -, -, -, -, -, -, hsigM⟩ := Cond.codeWith_spec hcode
  cases Option.some.inj (hn8.symm.trans hnamed)
  cases hmethM.symm.trans hmethM'
  obtain ⟨c2, r2, m2, q1, q2, q3, q4, kP, hkP, hkPi⟩ := Cond.selects_spec hsel
  cases hcls.symm.trans q1
  cases (State.methodFound?_of_named hnamed hy).symm.trans q2
  cases hnamed.symm.trans q3
  have hselP : selectMethod e.platform s.vm cellB.cls mk = .method mk := by rw [Launch.admits_selectMethod X.admits]; exact q4
  obtain ⟨vm₁, X₁, hstep₁⟩ := X.invokevirtual hexec hown hlink hnamed hmethM hstM hkP hkPi hy (a := b) (cell := cellB) hcell
    (fun z h => by rw [h] at hobj; cases hobj) hselP hmethM habM hkP hkPi (g := g) hg (argsL := argsL) (rest := rest) (hlen _ hsigM) hstack hdg
  rcases hK m meth c ⟨T.setVm vm₁, locs, cells, slots⟩ { g with stack := rest } (.invokevirtual index) mk (Value.ref b :: argsL).toArray X₁ hg hsize hdg hW (X₁.named hnamed) (hpre vm₁ X₁.warmed) with ⟨v, B, X', hpost, hsteps⟩ | ⟨q, B, X', hpost, hsteps⟩
  · exact Or.inl ⟨v, vm₁, B, X₁.warmed, X', hpost, fun target h => hstep₁ _ fun acts => by rw [doInvoke_state]; exact hsteps.trans h⟩
  · exact Or.inr ⟨q, vm₁, B, X₁.warmed, X', hpost, hstep₁ _ fun acts => by rw [doInvoke_state]; exact hsteps⟩
theorem vx_callSX (X : Stand p l e R s m args below meth c T locs cells slots) (hexec : p.tables.exec = Jvm.exec) {own : String} {index : Nat} {y : MethodName} {bytes : ByteArray} {maxL : Nat} {ret : Option FieldType} {hh : List (Nat × Nat × Nat × Nat)}
    (hown : s.vm.findClass own = some m.cls) (hlink : (Cond.methodLink own index y).before args s = true) (hstat : (Cond.static y).before args s = true) (hinit : (Cond.initialized y.cls).before args s = true)
    (hcode : (Cond.codeWith y bytes maxL ret hh).before args s = true) (hy : y.cls ≠ "java/lang/invoke/MethodHandle" ∧ y.cls ≠ "java/lang/invoke/VarHandle")
    {W9 : Nat} {Pre : Pt → Array Value → Prop} {Post : Pt → Array Value → Option Value → Pt → Prop} {PostX : Pt → Array Value → Addr → Pt → Prop} (hK : vx_Back l R p e below s args y 3 W9 Pre Post PostX)
    {g : JFrame} (hg : g.method = m) (hsize : g.locals.size = c.maxLocals) {argsL rest : List Value} (hlen : ∀ sig, parseMethodDescriptor y.desc = some sig → argsL.length = sig.parameters.length)
    (hstack : g.stack = argsL.reverse ++ rest) (hW : 2 * g.monitorRoom + (rest.map fun v => v.category).sum ≤ W9) (hdg : decode c.code g.pc = .ok (.invokestatic index, 3))
    (hpre : ∀ vm₁, s.WarmedH vm₁ → Pre ⟨T.setVm vm₁, locs, cells, slots⟩ argsL.toArray) :
    (∃ (v : Option Value) (vm₁ : Vm) (B : Pt), s.WarmedH vm₁ ∧ Stand p l e R s m args below meth c B.U B.locs B.cells B.slots ∧ Post ⟨T.setVm vm₁, locs, cells, slots⟩ argsL.toArray v B ∧
      ∀ target, Steps p.tables e below (B.U.setTop { g with pc := g.pc + 3, stack := v.toList ++ rest }) target → Steps p.tables e below (T.setTop g) target) ∨
    (∃ (q : Addr) (vm₁ : Vm) (B : Pt), s.WarmedH vm₁ ∧ Stand p l e R s m args below meth c B.U B.locs B.cells B.slots ∧ PostX ⟨T.setVm vm₁, locs, cells, slots⟩ argsL.toArray q B ∧
      Steps p.tables e below (T.setTop g) ((B.U.setTop { g with stack := rest }).pushFrame (.throwing q))) := by
  obtain ⟨mk, methM, cM, hnamed, hmethM, -, -, -, -, -, -, hsigM⟩ := Cond.codeWith_spec hcode
  have hstatic : methM.isStatic = true := Cond.static_spec hnamed hmethM hstat
  obtain ⟨kP, hkP, -⟩ := className_of_methodNamed hnamed
  have hinitP : kP.init = .initialized := Cond.initialized_spec (findClass_of_methodNamed hnamed) hkP hinit
  obtain ⟨vm₁, X₁, hstep₁⟩ := X.invokestatic hexec hown hlink hnamed hmethM hstatic hkP hinitP hy (g := g) hg (argsL := argsL) (rest := rest) (hlen _ hsigM) hstack hdg
  rcases hK m meth c ⟨T.setVm vm₁, locs, cells, slots⟩ { g with stack := rest } (.invokestatic index) mk argsL.toArray X₁ hg hsize hdg hW (X₁.named hnamed) (hpre vm₁ X₁.warmed) with ⟨v, B, X', hpost, hsteps⟩ | ⟨q, B, X', hpost, hsteps⟩
  · exact Or.inl ⟨v, vm₁, B, X₁.warmed, X', hpost, fun target h => hstep₁ _ fun acts => by rw [doInvoke_state]; exact hsteps.trans h⟩
  · exact Or.inr ⟨q, vm₁, B, X₁.warmed, X', hpost, hstep₁ _ fun acts => by rw [doInvoke_state]; exact hsteps⟩
theorem vx_callVW (X : Stand p l e R s m args below meth c T locs cells slots) (hexec : p.tables.exec = Jvm.exec) {own C : String} {index : Nat} {y : MethodName} {bytes : ByteArray} {maxL : Nat} {ret : Option FieldType} {hh : List (Nat × Nat × Nat × Nat)}
    (hown : s.vm.findClass own = some m.cls) (hlink : (Cond.methodLink own index y).before args s = true) (hinst : (Cond.instanceMethod y).before args s = true) (hsel : (Cond.selects C y y).before args s = true)
    (hcode : (Cond.codeWith y bytes maxL ret hh).before args s = true) (hy : y.cls ≠ "java/lang/invoke/MethodHandle" ∧ y.cls ≠ "java/lang/invoke/VarHandle")
    {W9 : Nat} {Pre : Pt → Array Value → Prop} {Post : Pt → Array Value → Option Value → Pt → Prop} (hK : Back l R p e below s args y 3 W9 Pre Post)
    {b : Addr} {cellB : Cell} (hcell : T.heap[b]? = some cellB) (hobj : cellB.vm.isStatics = false) (hcls : s.vm.findClass C = some cellB.cls)
    {g : JFrame} (hg : g.method = m) (hsize : g.locals.size = c.maxLocals) {argsL rest : List Value} (hlen : ∀ sig, parseMethodDescriptor y.desc = some sig → argsL.length = sig.parameters.length)
    (hstack : g.stack = argsL.reverse ++ .ref b :: rest) (hW : 2 * g.monitorRoom + (rest.map fun v => v.category).sum ≤ W9) (hdg : decode c.code g.pc = .ok (.invokevirtual index, 3))
    (hpre : ∀ vm₁, s.WarmedH vm₁ → Pre ⟨T.setVm vm₁, locs, cells, slots⟩ (Value.ref b :: argsL).toArray) :
    ∃ (v : Option Value) (vm₁ : Vm) (B : Pt), s.WarmedH vm₁ ∧ Stand p l e R s m args below meth c B.U B.locs B.cells B.slots ∧ Post ⟨T.setVm vm₁, locs, cells, slots⟩ (Value.ref b :: argsL).toArray v B ∧
      ∀ target, Steps p.tables e below (B.U.setTop { g with pc := g.pc + 3, stack := v.toList ++ rest }) target → Steps p.tables e below (T.setTop g) target := by
  obtain ⟨mk, methM, hnamed, hmethM, hstM, habM⟩ := Cond.instanceMethod_spec hinst
  obtain ⟨m8, methM', cM, hn8, hmethM', -, -, -, -, -, -, hsigM⟩ := Cond.codeWith_spec hcode
  cases Option.some.inj (hn8.symm.trans hnamed)
  cases hmethM.symm.trans hmethM'
  obtain ⟨c2, r2, m2, q1, q2, q3, q4, kP, hkP, hkPi⟩ := Cond.selects_spec hsel
  cases hcls.symm.trans q1
  cases (State.methodFound?_of_named hnamed hy).symm.trans q2
  cases hnamed.symm.trans q3
  have hselP : selectMethod e.platform s.vm cellB.cls mk = .method mk := by rw [Launch.admits_selectMethod X.admits]; exact q4
  obtain ⟨vm₁, X₁, hstep₁⟩ := X.invokevirtual hexec hown hlink hnamed hmethM hstM hkP hkPi hy (a := b) (cell := cellB) hcell
    (fun z h => by rw [h] at hobj; cases hobj) hselP hmethM habM hkP hkPi (g := g) hg (argsL := argsL) (rest := rest) (hlen _ hsigM) hstack hdg
  obtain ⟨v, B, X', hpost, hsteps⟩ := hK m meth c ⟨T.setVm vm₁, locs, cells, slots⟩ { g with stack := rest } (.invokevirtual index) mk (Value.ref b :: argsL).toArray X₁ hg hsize hdg hW (X₁.named hnamed) (hpre vm₁ X₁.warmed)
  exact ⟨v, vm₁, B, X₁.warmed, X', hpost, fun target h => hstep₁ _ fun acts => by rw [doInvoke_state]; exact hsteps.trans h⟩
abbrev vx_CVW (R : Room) (s : State) (args : Array Value) (own C : String) (index : Nat) (y : MethodName) (bytes : ByteArray) (maxL : Nat) (ret : Option FieldType) (hh : List (Nat × Nat × Nat × Nat)) (ws : List Cond) (rm : Room) (mc ms n : Nat) : Prop :=
  (rm.cells = mc ∧ rm.slots = ms ∧ rm.frames + 1 ≤ R.frames ∧ 8 + (maxL + 11) + rm.locals ≤ R.locals ∧ (∀ w ∈ ws, ∀ (a' : Array Value) (U : State), s.WarmedH U.vm → w.before a' U = true) ∧ Cond.codeWith y bytes maxL ret hh ∈ ws) ∧
  (Cond.codeWith y bytes maxL ret hh).before args s = true ∧ (Cond.initialized y.cls).before args s = true ∧ (y.cls ≠ "java/lang/invoke/MethodHandle" ∧ y.cls ≠ "java/lang/invoke/VarHandle") ∧
  (∀ sig, parseMethodDescriptor y.desc = some sig → n = sig.parameters.length) ∧ (Cond.methodLink own index y).before args s = true ∧ (Cond.instanceMethod y).before args s = true ∧ (Cond.selects C y y).before args s = true
theorem vx_cwVW {own C : String} {index maxL mc ms : Nat} {y : MethodName} {bytes : ByteArray} {ret : Option FieldType} {hh : List (Nat × Nat × Nat × Nat)} {Ts ws ws' : List Cond} {rm : Room} (n : Nat) (ht : ∀ w ∈ Ts, w.before args s = true) (hT : GoodIn Ts (wsV own index C y ws)) (hw : ws = Cond.codeWith y bytes maxL ret hh :: ws') (hrc : rm.cells = mc) (hrs : rm.slots = ms)
    (hd : y.cls = C ∧ y.cls ≠ "java/lang/invoke/MethodHandle" ∧ y.cls ≠ "java/lang/invoke/VarHandle" ∧ (parseMethodDescriptor y.desc).map (fun d => d.parameters.length) = some n) (hR : rm.frames + 1 ≤ R.frames ∧ 8 + (maxL + 11) + rm.locals ≤ R.locals) :
    vx_CVW R s args own C index y bytes maxL ret hh ws rm mc ms n := by
  obtain ⟨hC, hd⟩ := hd
  subst hC
  have ok : ∀ w ∈ wsV own index y.cls y ws, w.before args s = true := fun w h => ht w (hT w h).1
  have hG : GoodIn Ts ws := fun w h => hT w (by unfold wsV; exact List.mem_append_right _ h)
  have hc : Cond.codeWith y bytes maxL ret hh ∈ ws := by rw [hw]; exact List.mem_cons_self
  refine ⟨⟨hrc, hrs, hR.1, hR.2, pay_in ht hG, hc⟩, ht _ (hG _ hc).1, ok _ (by simp [wsV]), ⟨hd.1, hd.2.1⟩, fun sig h => ?_, ok _ (by simp [wsV]), ok _ (by simp [wsV]), ok _ (by simp [wsV])⟩
  have h2 := hd.2.2
  rw [h] at h2
  exact (Option.some.inj h2).symm
theorem vx_runVW {y : MethodName} {bytes cc : ByteArray} {maxL nL mc ms n index : Nat} {ret : Option FieldType} {hh : List (Nat × Nat × Nat × Nat)} {ws : List Cond} {rm : Room} {Pc : Array Value → State → Prop} {Qc : Array Value → State → Outcome → State → Prop} {free : Addr → Prop} {Ts : List Cond} {own C : String} {b : Addr} {As rest : List Value} {g : JFrame}
    (S : CallFix p m c cc nL s args Ts own) (hM : Met l y ws rm Pc Qc mc ms free) (cw : vx_CVW R s args own C index y bytes maxL ret hh ws rm mc ms n) (hp : PreV s H C b Pc As)
    (hg : g.method = m) (hn : As.length = n) (hsize : g.locals.size = nL) (hstack : g.stack = As.reverse ++ .ref b :: rest) (hW : 2 * g.monitorRoom + (rest.map fun v => v.category).sum ≤ 8) (hdg : decode cc g.pc = .ok (.invokevirtual index, 3)) (hf : cells + mc ≤ R.cells ∧ slots + ms ≤ R.slots) :
    va_Run p l e R s m args below meth c H locs cells slots mc ms g rest (Qc (Value.ref b :: As).toArray) free := by
  obtain ⟨⟨hrc, hrs, hfr, hlo, hws, hcw⟩, hcode, hini, hy, hlen, hl, hin, hse⟩ := cw
  have hK : Back l R p e below s args y 3 8 (PreOf R mc ms Pc) (PostOf Qc mc ms free) := va_backW (hh := hh) (bytes := bytes) (maxL := maxL) (ret := ret) hM hp.1 hrc hrs hfr hlo hws hcw (fun a' U hW => word_at hW (Or.inl (by first | rfl | simp [Cond.onTables, Cond.keeps, Cond.steady])) hini)
  obtain ⟨hx, hb, hml, ho, -⟩ := S
  obtain ⟨-, ⟨cellB, hcB, hoB, hclB⟩, hPc⟩ := hp
  intro T hT X
  obtain ⟨v, vm₁, ⟨U', l2, c2, s2⟩, hW₁, X', ⟨g', mk, t, L, e1, e2, hq, h1, hL, h2, h3⟩, st⟩ := vx_callVW X hx (C := C) (hh := hh) (bytes := bytes) (maxL := maxL) (ret := ret) ho hl hin hse hcode hy hK (by rw [hT]; exact hcB) hoB hclB hg (hsize.trans hml.symm) (argsL := As) (rest := rest) (fun sig h => hn.trans (hlen sig h)) hstack hW (by rw [hb]; exact hdg)
    (fun vm₁ hW₁ => ⟨hf.1, hf.2, hPc (T.setVm vm₁) hT hW₁⟩)
  dsimp only [Pt.U, Pt.locs, Pt.cells, Pt.slots] at X' e1 e2 h1 h2 h3 st
  subst h1; subst h2; subst h3
  exact ⟨v, (T.setVm vm₁).calling g' mk (Value.ref b :: As).toArray, t, U', L, hT, X', hL, e1, e2, hq, st⟩
section
variable {y : MethodName} {bytes cc : ByteArray} {maxL nL mc ms n index : Nat} {ret : Option FieldType} {ws : List Cond} {rm : Room} {Pc : Array Value → State → Prop} {Qc : Array Value → State → Outcome → State → Prop} {XC : String → State → State → Prop} {free : Addr → Prop} {Ts : List Cond} {own C : String} {b : Addr} {As rest : List Value} {g : JFrame}
theorem vx_runVX {hh : List (Nat × Nat × Nat × Nat)} (S : CallFix p m c cc nL s args Ts own) (hM : vx_Met l y ws rm Pc Qc XC mc ms free) (cw : vx_CVW R s args own C index y bytes maxL ret hh ws rm mc ms n) (hp : PreV s H C b Pc As)
    (hg : g.method = m) (hn : As.length = n) (hsize : g.locals.size = nL) (hstack : g.stack = As.reverse ++ .ref b :: rest) (hW : 2 * g.monitorRoom + (rest.map fun v => v.category).sum ≤ 8) (hdg : decode cc g.pc = .ok (.invokevirtual index, 3)) (hf : cells + mc ≤ R.cells ∧ slots + ms ≤ R.slots) :
    vx_Run p l e R s m args below meth c H locs cells slots mc ms g rest (Qc (Value.ref b :: As).toArray) XC free := by
  obtain ⟨⟨hrc, hrs, hfr, hlo, hws, hcw⟩, hcode, hini, hy, hlen, hl, hin, hse⟩ := cw
  have hK : vx_Back l R p e below s args y 3 8 (PreOf R mc ms Pc) (PostOf Qc mc ms free) (vx_Post XC mc ms free) := vx_backW (hh := hh) (bytes := bytes) (maxL := maxL) (ret := ret) hM hp.1 hrc hrs hfr hlo hws hcw (fun a' U hW => word_at hW (Or.inl (by first | rfl | simp [Cond.onTables, Cond.keeps, Cond.steady])) hini)
  obtain ⟨hx, hb, hml, ho, -⟩ := S
  obtain ⟨-, ⟨cellB, hcB, hoB, hclB⟩, hPc⟩ := hp
  intro T hT X
  rcases vx_callVX X hx (C := C) (hh := hh) (bytes := bytes) (maxL := maxL) (ret := ret) ho hl hin hse hcode hy hK (by rw [hT]; exact hcB) hoB hclB hg (hsize.trans hml.symm) (argsL := As) (rest := rest) (fun sig h => hn.trans (hlen sig h)) hstack hW (by rw [hb]; exact hdg)
    (fun vm₁ hW₁ => ⟨hf.1, hf.2, hPc (T.setVm vm₁) hT hW₁⟩) with ⟨v, vm₁, ⟨U', l2, c2, s2⟩, hW₁, X', ⟨g', mk, t, L, e1, e2, hq, h1, hL, h2, h3⟩, st⟩ | ⟨q, vm₁, ⟨U', l2, c2, s2⟩, hW₁, X', ⟨g', mk, t, L, E, ce, e1, e2, hq, hce, hcv, hcl, h1, hL, h2, h3⟩, st⟩
  · dsimp only [Pt.U, Pt.locs, Pt.cells, Pt.slots] at X' e1 e2 h1 h2 h3 st
    subst h1; subst h2; subst h3
    exact Or.inl ⟨v, (T.setVm vm₁).calling g' mk (Value.ref b :: As).toArray, t, U', L, hT, X', hL, e1, e2, hq, st⟩
  · dsimp only [Pt.U, Pt.locs, Pt.cells, Pt.slots] at X' e1 e2 h1 h2 h3 st hcl
    subst h1; subst h2; subst h3
    exact Or.inr ⟨q, (T.setVm vm₁).calling g' mk (Value.ref b :: As).toArray, t, U', L, E, ce, hT, X', hL, e1, e2, hq, hce, hcv, vx_cls hW₁ hcl, st⟩
theorem vx_runSX {hh : List (Nat × Nat × Nat × Nat)} (S : CallFix p m c cc nL s args Ts own) (hM : vx_Met l y ws rm Pc Qc XC mc ms free) (cw : vx_CSW R s args own index y bytes maxL ret hh ws rm mc ms n) (hp : PreS s H Pc As)
    (hg : g.method = m) (hn : As.length = n) (hsize : g.locals.size = nL) (hstack : g.stack = As.reverse ++ rest) (hW : 2 * g.monitorRoom + (rest.map fun v => v.category).sum ≤ 8) (hdg : decode cc g.pc = .ok (.invokestatic index, 3)) (hf : cells + mc ≤ R.cells ∧ slots + ms ≤ R.slots) :
    vx_Run p l e R s m args below meth c H locs cells slots mc ms g rest (Qc As.toArray) XC free := by
  obtain ⟨⟨hrc, hrs, hfr, hlo, hws, hcw⟩, hcode, hini, hy, hlen, hl, hstt⟩ := cw
  have hK : vx_Back l R p e below s args y 3 8 (PreOf R mc ms Pc) (PostOf Qc mc ms free) (vx_Post XC mc ms free) := vx_backW (hh := hh) (bytes := bytes) (maxL := maxL) (ret := ret) hM hp.1 hrc hrs hfr hlo hws hcw (fun a' U hW => word_at hW (Or.inl (by first | rfl | simp [Cond.onTables, Cond.keeps, Cond.steady])) hini)
  obtain ⟨hx, hb, hml, ho, -⟩ := S
  intro T hT X
  rcases vx_callSX X hx (hh := hh) (bytes := bytes) (maxL := maxL) (ret := ret) ho hl hstt hini hcode hy hK hg (hsize.trans hml.symm) (argsL := As) (rest := rest) (fun sig h => hn.trans (hlen sig h)) hstack hW (by rw [hb]; exact hdg)
    (fun vm₁ hW₁ => ⟨hf.1, hf.2, hp.2 (T.setVm vm₁) hT hW₁⟩) with ⟨v, vm₁, ⟨U', l2, c2, s2⟩, hW₁, X', ⟨g', mk, t, L, e1, e2, hq, h1, hL, h2, h3⟩, st⟩ | ⟨q, vm₁, ⟨U', l2, c2, s2⟩, hW₁, X', ⟨g', mk, t, L, E, ce, e1, e2, hq, hce, hcv, hcl, h1, hL, h2, h3⟩, st⟩
  · dsimp only [Pt.U, Pt.locs, Pt.cells, Pt.slots] at X' e1 e2 h1 h2 h3 st
    subst h1; subst h2; subst h3
    exact Or.inl ⟨v, (T.setVm vm₁).calling g' mk As.toArray, t, U', L, hT, X', hL, e1, e2, hq, st⟩
  · dsimp only [Pt.U, Pt.locs, Pt.cells, Pt.slots] at X' e1 e2 h1 h2 h3 st hcl
    subst h1; subst h2; subst h3
    exact Or.inr ⟨q, (T.setVm vm₁).calling g' mk As.toArray, t, U', L, E, ce, hT, X', hL, e1, e2, hq, hce, hcv, vx_cls hW₁ hcl, st⟩
end
end VXH
theorem vx_ofWH {l : Launch} {y : MethodName} {ws ws' : List Cond} {rm : Room} {Pc : Array Value → State → Prop} {Qc : Array Value → State → Outcome → State → Prop} {XC : String → State → State → Prop} {mc ms : Nat} {free : Addr → Prop} {cc : ByteArray} {maxL : Nat} {ret : Option FieldType} {hh : List (Nat × Nat × Nat × Nat)}
    (hy : plainName y.cls = true) (hw : ws = Cond.codeWith y cc maxL ret hh :: ws')
    (body : ∀ p e s m args below meth c s₁, BodyLoose p l y (headSpec ws rm) cc maxL ret e s m args below meth c s₁ → c.maxLocals = maxL → Pc args s →
      W p l e (headSpec ws rm).room s m args below meth c s.heap [] 0 0 (vx_MQ below Qc XC args s mc ms free) (entryFrame m args maxL)) : vx_Met l y ws rm Pc Qc XC mc ms free := by
  refine MetFree.of_bodyS (code := cc) (maxLocals := maxL) (ret := ret) hy ?_ ?_
  · intro args s m h hn
    obtain ⟨m9, meth, c, hn9, h1, h2, h3, h4, -, h5, h6, -⟩ := Cond.codeWith_spec (atoms_spec (ws := ws) h _ (by rw [hw]; exact List.mem_cons_self))
    cases hn.symm.trans hn9
    exact ⟨meth, c, h1, h2, h3, h4, h5, h6⟩
  · intro p e s m args below meth c s₁ B hml hP _
    have hh0 : s₁.heap = s.heap := by rw [B.state]; rfl
    obtain ⟨t, a1, o, b1, b2, b3⟩ := body p e s m args below meth c s₁ B hml hP s₁ hh0 (Stand.of_body B)
    exact ⟨t, o, a1, b1, b2, b3⟩
/-! ===== END ===== -/
end
section
/-! ===== BEGIN printed: names, fields, word lists, decode rows ===== -/
def RX0 : String := "Commutator$Decoder"
def TX0 : u_T := fun k => match k with
  | 0 => ("Commutator$Decoder", "usedFrames", "I", false)
  | 1 => ("Commutator$Decoder", "lostFrames", "I", false)
  | 2 => ("Commutator$Decoder", "repeatedFrames", "I", false)
  | 3 => ("Commutator$Decoder", "latestCounter", "I", false)
  | _ => ("Commutator$Decoder", "latestNumber", "I", false)
def tyX0 : Nat → FieldType := fun k => match k with
  | 0 => .int
  | 1 => .int
  | 2 => .int
  | 3 => .int
  | _ => .int
abbrev wsX00 : List Cond := u_ws RX0 TX0 5
theorem nmX0 : ∀ a, a < 5 → ∀ b, b < 5 → a ≠ b → (TX0 a).2.1 ≠ (TX0 b).2.1 := by decide +kernel
theorem tyX0_ok : ∀ k, k < 5 → parseFieldDescriptor (TX0 k).2.2.1 = some (tyX0 k) := by decide +kernel
abbrev cX0_init : ByteArray := prog_2_method_1_code
def yX0_init : MethodName := ⟨RX0, "<init>", "()V"⟩
abbrev cX0_decode : ByteArray := prog_2_method_2_code
def yX0_decode : MethodName := ⟨RX0, "decode", "(JLCommutator$PointTable;)V"⟩
abbrev cX0_noteLost : ByteArray := prog_2_method_3_code
def yX0_noteLost : MethodName := ⟨RX0, "noteLost", "(ILCommutator$PointTable;)V"⟩
abbrev cX0_giveSamples : ByteArray := prog_2_method_4_code
def yX0_giveSamples : MethodName := ⟨RX0, "giveSamples", "(JLCommutator$PointTable;)V"⟩
def RX1 : String := "Commutator$Derived"
def TX1 : u_T := fun k => match k with
  | 0 => ("Commutator$Derived", "defined", "Z", false)
  | 1 => ("Commutator$Derived", "operation", "I", false)
  | 2 => ("Commutator$Derived", "first", "I", false)
  | 3 => ("Commutator$Derived", "second", "I", false)
  | _ => ("Commutator$Derived", "result", "LCommutator$Reading;", true)
def tyX1 : Nat → FieldType := fun k => match k with
  | 0 => .boolean
  | 1 => .int
  | 2 => .int
  | 3 => .int
  | _ => .object "Commutator$Reading"
abbrev wsX10 : List Cond := u_ws RX1 TX1 5
theorem nmX1 : ∀ a, a < 5 → ∀ b, b < 5 → a ≠ b → (TX1 a).2.1 ≠ (TX1 b).2.1 := by decide +kernel
theorem tyX1_ok : ∀ k, k < 5 → parseFieldDescriptor (TX1 k).2.2.1 = some (tyX1 k) := by decide +kernel
abbrev cX1_init : ByteArray := prog_3_method_1_code
def yX1_init : MethodName := ⟨RX1, "<init>", "()V"⟩
abbrev cX1_combine : ByteArray := prog_3_method_2_code
def yX1_combine : MethodName := ⟨RX1, "combine", "(LCommutator$Reading;LCommutator$Reading;)V"⟩
abbrev cX1_operate : ByteArray := prog_3_method_3_code
def yX1_operate : MethodName := ⟨RX1, "operate", "(JJ)J"⟩
def RX2 : String := "Commutator$DerivedTable"
def TX2 : u_T := fun k => match k with
  | _ => ("Commutator$DerivedTable", "rows", "[LCommutator$Derived;", true)
def tyX2 : Nat → FieldType := fun k => match k with
  | _ => .array (.object "Commutator$Derived")
abbrev wsX20 : List Cond := u_ws RX2 TX2 1
theorem nmX2 : ∀ a, a < 1 → ∀ b, b < 1 → a ≠ b → (TX2 a).2.1 ≠ (TX2 b).2.1 := by decide +kernel
theorem tyX2_ok : ∀ k, k < 1 → parseFieldDescriptor (TX2 k).2.2.1 = some (tyX2 k) := by decide +kernel
abbrev cX2_init : ByteArray := prog_4_method_1_code
def yX2_init : MethodName := ⟨RX2, "<init>", "()V"⟩
abbrev cX2_define : ByteArray := prog_4_method_2_code
def yX2_define : MethodName := ⟨RX2, "define", "(IIII)V"⟩
abbrev cX2_wouldNeedItself : ByteArray := prog_4_method_3_code
def yX2_wouldNeedItself : MethodName := ⟨RX2, "wouldNeedItself", "(III)Z"⟩
abbrev cX2_needsOf : ByteArray := prog_4_method_4_code
def yX2_needsOf : MethodName := ⟨RX2, "needsOf", "(I)I"⟩
abbrev cX2_operandMask : ByteArray := prog_4_method_5_code
def yX2_operandMask : MethodName := ⟨RX2, "operandMask", "(I)I"⟩
abbrev cX2_compute : ByteArray := prog_4_method_6_code
def yX2_compute : MethodName := ⟨RX2, "compute", "(ILCommutator$PointTable;)LCommutator$Reading;"⟩
abbrev cX2_computeOne : ByteArray := prog_4_method_7_code
def yX2_computeOne : MethodName := ⟨RX2, "computeOne", "(LCommutator$Derived;LCommutator$PointTable;)V"⟩
abbrev cX2_operand : ByteArray := prog_4_method_8_code
def yX2_operand : MethodName := ⟨RX2, "operand", "(ILCommutator$PointTable;)LCommutator$Reading;"⟩
abbrev cX2_at : ByteArray := prog_4_method_9_code
def yX2_at : MethodName := ⟨RX2, "at", "(I)LCommutator$Derived;"⟩
def RX3 : String := "Commutator$Line"
def TX3 : u_T := fun k => match k with
  | 0 => ("Commutator$Line", "bits", "[I", true)
  | 1 => ("Commutator$Line", "head", "I", false)
  | _ => ("Commutator$Line", "end", "I", false)
def tyX3 : Nat → FieldType := fun k => match k with
  | 0 => .array .int
  | 1 => .int
  | _ => .int
abbrev wsX30 : List Cond := u_ws RX3 TX3 3
theorem nmX3 : ∀ a, a < 3 → ∀ b, b < 3 → a ≠ b → (TX3 a).2.1 ≠ (TX3 b).2.1 := by decide +kernel
theorem tyX3_ok : ∀ k, k < 3 → parseFieldDescriptor (TX3 k).2.2.1 = some (tyX3 k) := by decide +kernel
abbrev cX3_init : ByteArray := prog_5_method_1_code
def yX3_init : MethodName := ⟨RX3, "<init>", "()V"⟩
abbrev cX3_length : ByteArray := prog_5_method_2_code
def yX3_length : MethodName := ⟨RX3, "length", "()I"⟩
abbrev cX3_holds : ByteArray := prog_5_method_3_code
def yX3_holds : MethodName := ⟨RX3, "holds", "(II)Z"⟩
abbrev cX3_append : ByteArray := prog_5_method_4_code
def yX3_append : MethodName := ⟨RX3, "append", "(I)V"⟩
abbrev cX3_look : ByteArray := prog_5_method_5_code
def yX3_look : MethodName := ⟨RX3, "look", "(I)I"⟩
abbrev cX3_turnOver : ByteArray := prog_5_method_6_code
def yX3_turnOver : MethodName := ⟨RX3, "turnOver", "(I)I"⟩
abbrev cX3_remove : ByteArray := prog_5_method_7_code
def yX3_remove : MethodName := ⟨RX3, "remove", "(II)V"⟩
abbrev cX3_takeFirst : ByteArray := prog_5_method_8_code
def yX3_takeFirst : MethodName := ⟨RX3, "takeFirst", "()I"⟩
def RX4 : String := "Commutator$Point"
def TX4 : u_T := fun k => match k with
  | 0 => ("Commutator$Point", "width", "I", true)
  | 1 => ("Commutator$Point", "convention", "I", true)
  | 2 => ("Commutator$Point", "period", "I", true)
  | 3 => ("Commutator$Point", "twice", "Z", true)
  | 4 => ("Commutator$Point", "phase", "I", true)
  | 5 => ("Commutator$Point", "offset", "I", true)
  | 6 => ("Commutator$Point", "present", "I", false)
  | 7 => ("Commutator$Point", "latest", "LCommutator$Reading;", true)
  | 8 => ("Commutator$Point", "sampleCount", "I", false)
  | _ => ("Commutator$Point", "missingCount", "I", false)
def tyX4 : Nat → FieldType := fun k => match k with
  | 0 => .int
  | 1 => .int
  | 2 => .int
  | 3 => .boolean
  | 4 => .int
  | 5 => .int
  | 6 => .int
  | 7 => .object "Commutator$Reading"
  | 8 => .int
  | _ => .int
abbrev wsX40 : List Cond := u_ws RX4 TX4 10
theorem nmX4 : ∀ a, a < 10 → ∀ b, b < 10 → a ≠ b → (TX4 a).2.1 ≠ (TX4 b).2.1 := by decide +kernel
theorem tyX4_ok : ∀ k, k < 10 → parseFieldDescriptor (TX4 k).2.2.1 = some (tyX4 k) := by decide +kernel
abbrev cX4_init : ByteArray := prog_6_method_1_code
def yX4_init : MethodName := ⟨RX4, "<init>", "(IIIZII)V"⟩
abbrev cX4_lowest : ByteArray := prog_6_method_2_code
def yX4_lowest : MethodName := ⟨RX4, "lowest", "()I"⟩
abbrev cX4_highest : ByteArray := prog_6_method_3_code
def yX4_highest : MethodName := ⟨RX4, "highest", "()I"⟩
abbrev cX4_encode : ByteArray := prog_6_method_4_code
def yX4_encode : MethodName := ⟨RX4, "encode", "(I)I"⟩
abbrev cX4_decode : ByteArray := prog_6_method_5_code
def yX4_decode : MethodName := ⟨RX4, "decode", "(I)I"⟩
abbrev cX4_signWeight : ByteArray := prog_6_method_6_code
def yX4_signWeight : MethodName := ⟨RX4, "signWeight", "()I"⟩
abbrev cX4_isSentIn : ByteArray := prog_6_method_7_code
def yX4_isSentIn : MethodName := ⟨RX4, "isSentIn", "(I)Z"⟩
abbrev cX4_samplesInFrame : ByteArray := prog_6_method_8_code
def yX4_samplesInFrame : MethodName := ⟨RX4, "samplesInFrame", "()I"⟩
abbrev cX4_firstBit : ByteArray := prog_6_method_9_code
def yX4_firstBit : MethodName := ⟨RX4, "firstBit", "(I)I"⟩
abbrev cX4_shift : ByteArray := prog_6_method_10_code
def yX4_shift : MethodName := ⟨RX4, "shift", "(I)I"⟩
abbrev cX4_readFrom : ByteArray := prog_6_method_11_code
def yX4_readFrom : MethodName := ⟨RX4, "readFrom", "(JI)V"⟩
abbrev cX4_noteMissing : ByteArray := prog_6_method_12_code
def yX4_noteMissing : MethodName := ⟨RX4, "noteMissing", "()V"⟩
def RX5 : String := "Commutator$PointTable"
def TX5 : u_T := fun k => match k with
  | 0 => ("Commutator$PointTable", "rows", "[LCommutator$Point;", true)
  | 1 => ("Commutator$PointTable", "count", "I", false)
  | _ => ("Commutator$PointTable", "usedBits", "[J", true)
def tyX5 : Nat → FieldType := fun k => match k with
  | 0 => .array (.object "Commutator$Point")
  | 1 => .int
  | _ => .array .long
abbrev wsX50 : List Cond := u_ws RX5 TX5 3
theorem nmX5 : ∀ a, a < 3 → ∀ b, b < 3 → a ≠ b → (TX5 a).2.1 ≠ (TX5 b).2.1 := by decide +kernel
theorem tyX5_ok : ∀ k, k < 3 → parseFieldDescriptor (TX5 k).2.2.1 = some (tyX5 k) := by decide +kernel
abbrev cX5_init : ByteArray := prog_7_method_1_code
def yX5_init : MethodName := ⟨RX5, "<init>", "()V"⟩
abbrev cX5_at : ByteArray := prog_7_method_2_code
def yX5_at : MethodName := ⟨RX5, "at", "(I)LCommutator$Point;"⟩
abbrev cX5_add : ByteArray := prog_7_method_3_code
def yX5_add : MethodName := ⟨RX5, "add", "(IIIZ)Z"⟩
abbrev cX5_bitsAt : ByteArray := prog_7_method_4_code
def yX5_bitsAt : MethodName := ⟨RX5, "bitsAt", "(IIZ)J"⟩
abbrev cX5_isFree : ByteArray := prog_7_method_5_code
def yX5_isFree : MethodName := ⟨RX5, "isFree", "(JII)Z"⟩
abbrev cX5_use : ByteArray := prog_7_method_6_code
def yX5_use : MethodName := ⟨RX5, "use", "(JII)V"⟩
abbrev cX5_spareBits : ByteArray := prog_7_method_7_code
def yX5_spareBits : MethodName := ⟨RX5, "spareBits", "()I"⟩
def RX6 : String := "Commutator$Reading"
def TX6 : u_T := fun k => match k with
  | 0 => ("Commutator$Reading", "known", "Z", false)
  | 1 => ("Commutator$Reading", "amount", "I", false)
  | _ => ("Commutator$Reading", "moment", "I", false)
def tyX6 : Nat → FieldType := fun k => match k with
  | 0 => .boolean
  | 1 => .int
  | _ => .int
abbrev wsX60 : List Cond := u_ws RX6 TX6 3
theorem nmX6 : ∀ a, a < 3 → ∀ b, b < 3 → a ≠ b → (TX6 a).2.1 ≠ (TX6 b).2.1 := by decide +kernel
theorem tyX6_ok : ∀ k, k < 3 → parseFieldDescriptor (TX6 k).2.2.1 = some (tyX6 k) := by decide +kernel
abbrev cX6_init : ByteArray := prog_8_method_1_code
def yX6_init : MethodName := ⟨RX6, "<init>", "()V"⟩
abbrev cX6_set : ByteArray := prog_8_method_2_code
def yX6_set : MethodName := ⟨RX6, "set", "(II)V"⟩
abbrev cX6_forget : ByteArray := prog_8_method_3_code
def yX6_forget : MethodName := ⟨RX6, "forget", "()V"⟩
def RX7 : String := "Commutator$Sender"
def TX7 : u_T := fun k => match k with
  | 0 => ("Commutator$Sender", "wordsSent", "I", false)
  | _ => ("Commutator$Sender", "frame", "J", false)
def tyX7 : Nat → FieldType := fun k => match k with
  | 0 => .int
  | _ => .long
abbrev wsX70 : List Cond := u_ws RX7 TX7 2
theorem nmX7 : ∀ a, a < 2 → ∀ b, b < 2 → a ≠ b → (TX7 a).2.1 ≠ (TX7 b).2.1 := by decide +kernel
theorem tyX7_ok : ∀ k, k < 2 → parseFieldDescriptor (TX7 k).2.2.1 = some (tyX7 k) := by decide +kernel
abbrev cX7_init : ByteArray := prog_9_method_1_code
def yX7_init : MethodName := ⟨RX7, "<init>", "()V"⟩
abbrev cX7_sendWord : ByteArray := prog_9_method_2_code
def yX7_sendWord : MethodName := ⟨RX7, "sendWord", "(LCommutator$PointTable;LCommutator$Line;)V"⟩
abbrev cX7_packSamples : ByteArray := prog_9_method_3_code
def yX7_packSamples : MethodName := ⟨RX7, "packSamples", "(LCommutator$PointTable;II)V"⟩
def RX8 : String := "Commutator$Synchroniser"
def TX8 : u_T := fun k => match k with
  | 0 => ("Commutator$Synchroniser", "mode", "I", false)
  | 1 => ("Commutator$Synchroniser", "takenBits", "I", false)
  | 2 => ("Commutator$Synchroniser", "latest", "J", false)
  | 3 => ("Commutator$Synchroniser", "bitsOfFrame", "I", false)
  | 4 => ("Commutator$Synchroniser", "matchCount", "I", false)
  | 5 => ("Commutator$Synchroniser", "missCount", "I", false)
  | _ => ("Commutator$Synchroniser", "syncWords", "[I", true)
def tyX8 : Nat → FieldType := fun k => match k with
  | 0 => .int
  | 1 => .int
  | 2 => .long
  | 3 => .int
  | 4 => .int
  | 5 => .int
  | _ => .array .int
abbrev wsX80 : List Cond := u_ws RX8 TX8 7
theorem nmX8 : ∀ a, a < 7 → ∀ b, b < 7 → a ≠ b → (TX8 a).2.1 ≠ (TX8 b).2.1 := by decide +kernel
theorem tyX8_ok : ∀ k, k < 7 → parseFieldDescriptor (TX8 k).2.2.1 = some (tyX8 k) := by decide +kernel
abbrev cX8_init : ByteArray := prog_10_method_1_code
def yX8_init : MethodName := ⟨RX8, "<init>", "()V"⟩
abbrev cX8_take : ByteArray := prog_10_method_2_code
def yX8_take : MethodName := ⟨RX8, "take", "(I)Z"⟩
abbrev cX8_syncWordsAt : ByteArray := prog_10_method_3_code
def yX8_syncWordsAt : MethodName := ⟨RX8, "syncWordsAt", "(I)I"⟩
abbrev cX8_latestWord : ByteArray := prog_10_method_4_code
def yX8_latestWord : MethodName := ⟨RX8, "latestWord", "()I"⟩
abbrev cX8_isSyncWord : ByteArray := prog_10_method_5_code
def yX8_isSyncWord : MethodName := ⟨RX8, "isSyncWord", "()Z"⟩
abbrev cX8_search : ByteArray := prog_10_method_6_code
def yX8_search : MethodName := ⟨RX8, "search", "()V"⟩
abbrev cX8_judgeSyncWord : ByteArray := prog_10_method_7_code
def yX8_judgeSyncWord : MethodName := ⟨RX8, "judgeSyncWord", "()V"⟩
abbrev cX8_check : ByteArray := prog_10_method_8_code
def yX8_check : MethodName := ⟨RX8, "check", "()V"⟩
abbrev cX8_keepLock : ByteArray := prog_10_method_9_code
def yX8_keepLock : MethodName := ⟨RX8, "keepLock", "()V"⟩
def RX9 : String := "Commutator"
def TX9 : u_T := fun k => match k with
  | 0 => ("Commutator", "table", "LCommutator$PointTable;", true)
  | 1 => ("Commutator", "line", "LCommutator$Line;", true)
  | 2 => ("Commutator", "sender", "LCommutator$Sender;", true)
  | 3 => ("Commutator", "synchroniser", "LCommutator$Synchroniser;", true)
  | 4 => ("Commutator", "decoder", "LCommutator$Decoder;", true)
  | _ => ("Commutator", "derivedTable", "LCommutator$DerivedTable;", true)
def tyX9 : Nat → FieldType := fun k => match k with
  | 0 => .object "Commutator$PointTable"
  | 1 => .object "Commutator$Line"
  | 2 => .object "Commutator$Sender"
  | 3 => .object "Commutator$Synchroniser"
  | 4 => .object "Commutator$Decoder"
  | _ => .object "Commutator$DerivedTable"
abbrev wsX90 : List Cond := u_ws RX9 TX9 6
theorem nmX9 : ∀ a, a < 6 → ∀ b, b < 6 → a ≠ b → (TX9 a).2.1 ≠ (TX9 b).2.1 := by decide +kernel
theorem tyX9_ok : ∀ k, k < 6 → parseFieldDescriptor (TX9 k).2.2.1 = some (tyX9 k) := by decide +kernel
abbrev cX9_init : ByteArray := prog_1_method_1_code
def yX9_init : MethodName := ⟨RX9, "<init>", "()V"⟩
abbrev cX9_addPoint : ByteArray := prog_1_method_2_code
def yX9_addPoint : MethodName := ⟨RX9, "addPoint", "(IIIZ)I"⟩
abbrev cX9_points : ByteArray := prog_1_method_3_code
def yX9_points : MethodName := ⟨RX9, "points", "()I"⟩
abbrev cX9_place : ByteArray := prog_1_method_4_code
def yX9_place : MethodName := ⟨RX9, "place", "(I)I"⟩
abbrev cX9_spare : ByteArray := prog_1_method_5_code
def yX9_spare : MethodName := ⟨RX9, "spare", "()I"⟩
abbrev cX9_put : ByteArray := prog_1_method_6_code
def yX9_put : MethodName := ⟨RX9, "put", "(II)I"⟩
abbrev cX9_send : ByteArray := prog_1_method_7_code
def yX9_send : MethodName := ⟨RX9, "send", "(I)I"⟩
abbrev cX9_sent : ByteArray := prog_1_method_8_code
def yX9_sent : MethodName := ⟨RX9, "sent", "()I"⟩
abbrev cX9_onLine : ByteArray := prog_1_method_9_code
def yX9_onLine : MethodName := ⟨RX9, "onLine", "()I"⟩
abbrev cX9_bit : ByteArray := prog_1_method_10_code
def yX9_bit : MethodName := ⟨RX9, "bit", "(I)I"⟩
abbrev cX9_flip : ByteArray := prog_1_method_11_code
def yX9_flip : MethodName := ⟨RX9, "flip", "(I)I"⟩
abbrev cX9_cut : ByteArray := prog_1_method_12_code
def yX9_cut : MethodName := ⟨RX9, "cut", "(II)I"⟩
abbrev cX9_receive : ByteArray := prog_1_method_13_code
def yX9_receive : MethodName := ⟨RX9, "receive", "(I)I"⟩
abbrev cX9_state : ByteArray := prog_1_method_14_code
def yX9_state : MethodName := ⟨RX9, "state", "()I"⟩
abbrev cX9_taken : ByteArray := prog_1_method_15_code
def yX9_taken : MethodName := ⟨RX9, "taken", "()I"⟩
abbrev cX9_frames : ByteArray := prog_1_method_16_code
def yX9_frames : MethodName := ⟨RX9, "frames", "()I"⟩
abbrev cX9_lost : ByteArray := prog_1_method_17_code
def yX9_lost : MethodName := ⟨RX9, "lost", "()I"⟩
abbrev cX9_repeats : ByteArray := prog_1_method_18_code
def yX9_repeats : MethodName := ⟨RX9, "repeats", "()I"⟩
abbrev cX9_number : ByteArray := prog_1_method_19_code
def yX9_number : MethodName := ⟨RX9, "number", "()I"⟩
abbrev cX9_value : ByteArray := prog_1_method_20_code
def yX9_value : MethodName := ⟨RX9, "value", "(I)I"⟩
abbrev cX9_time : ByteArray := prog_1_method_21_code
def yX9_time : MethodName := ⟨RX9, "time", "(I)I"⟩
abbrev cX9_samples : ByteArray := prog_1_method_22_code
def yX9_samples : MethodName := ⟨RX9, "samples", "(I)I"⟩
abbrev cX9_missing : ByteArray := prog_1_method_23_code
def yX9_missing : MethodName := ⟨RX9, "missing", "(I)I"⟩
abbrev cX9_derive : ByteArray := prog_1_method_24_code
def yX9_derive : MethodName := ⟨RX9, "derive", "(IIII)V"⟩
abbrev cX9_derivedValue : ByteArray := prog_1_method_25_code
def yX9_derivedValue : MethodName := ⟨RX9, "derivedValue", "(I)I"⟩
abbrev cX9_derivedTime : ByteArray := prog_1_method_26_code
def yX9_derivedTime : MethodName := ⟨RX9, "derivedTime", "(I)I"⟩
abbrev cX9_matches : ByteArray := prog_1_method_27_code
def yX9_matches : MethodName := ⟨RX9, "matches", "(I)I"⟩
abbrev cX9_bestOffset : ByteArray := prog_1_method_28_code
def yX9_bestOffset : MethodName := ⟨RX9, "bestOffset", "()I"⟩
abbrev cX9_isPointAllowed : ByteArray := prog_1_method_29_code
def yX9_isPointAllowed : MethodName := ⟨RX9, "isPointAllowed", "(IIIZ)Z"⟩
abbrev cX9_isDerived : ByteArray := prog_1_method_30_code
def yX9_isDerived : MethodName := ⟨RX9, "isDerived", "(I)Z"⟩
abbrev cX9_isOperand : ByteArray := prog_1_method_31_code
def yX9_isOperand : MethodName := ⟨RX9, "isOperand", "(I)Z"⟩
abbrev cX9_existingPoint : ByteArray := prog_1_method_32_code
def yX9_existingPoint : MethodName := ⟨RX9, "existingPoint", "(I)LCommutator$Point;"⟩
abbrev cX9_latestOf : ByteArray := prog_1_method_33_code
def yX9_latestOf : MethodName := ⟨RX9, "latestOf", "(LCommutator$Point;)LCommutator$Reading;"⟩
abbrev cX9_resultOf : ByteArray := prog_1_method_34_code
def yX9_resultOf : MethodName := ⟨RX9, "resultOf", "(I)LCommutator$Reading;"⟩
def RX10 : String := "CommutatorModel"
def TX10 : u_T := fun k => match k with
  | 0 => ("CommutatorModel", "points", "I", false)
  | 1 => ("CommutatorModel", "width", "[I", true)
  | 2 => ("CommutatorModel", "convention", "[I", true)
  | 3 => ("CommutatorModel", "period", "[I", true)
  | 4 => ("CommutatorModel", "samplesEach", "[I", true)
  | 5 => ("CommutatorModel", "phase", "[I", true)
  | 6 => ("CommutatorModel", "offset", "[I", true)
  | 7 => ("CommutatorModel", "present", "[I", true)
  | 8 => ("CommutatorModel", "sending", "[I", true)
  | 9 => ("CommutatorModel", "words", "I", false)
  | 10 => ("CommutatorModel", "onLine", "I", false)
  | 11 => ("CommutatorModel", "line", "[I", true)
  | 12 => ("CommutatorModel", "taken", "I", false)
  | 13 => ("CommutatorModel", "past", "[I", true)
  | 14 => ("CommutatorModel", "state", "I", false)
  | 15 => ("CommutatorModel", "begun", "I", false)
  | 16 => ("CommutatorModel", "matches", "I", false)
  | 17 => ("CommutatorModel", "misses", "I", false)
  | 18 => ("CommutatorModel", "isDecoded", "Z", false)
  | 19 => ("CommutatorModel", "counter", "I", false)
  | 20 => ("CommutatorModel", "number", "I", false)
  | 21 => ("CommutatorModel", "frames", "I", false)
  | 22 => ("CommutatorModel", "lost", "I", false)
  | 23 => ("CommutatorModel", "repeats", "I", false)
  | 24 => ("CommutatorModel", "value", "[I", true)
  | 25 => ("CommutatorModel", "time", "[I", true)
  | 26 => ("CommutatorModel", "samples", "[I", true)
  | 27 => ("CommutatorModel", "missing", "[I", true)
  | 28 => ("CommutatorModel", "operation", "[I", true)
  | 29 => ("CommutatorModel", "first", "[I", true)
  | 30 => ("CommutatorModel", "second", "[I", true)
  | 31 => ("CommutatorModel", "isKnown", "[Z", true)
  | 32 => ("CommutatorModel", "derived", "[I", true)
  | 33 => ("CommutatorModel", "derivedAt", "[I", true)
  | _ => ("CommutatorModel", "thrown", "I", false)
def tyX10 : Nat → FieldType := fun k => match k with
  | 0 => .int
  | 1 => .array .int
  | 2 => .array .int
  | 3 => .array .int
  | 4 => .array .int
  | 5 => .array .int
  | 6 => .array .int
  | 7 => .array .int
  | 8 => .array .int
  | 9 => .int
  | 10 => .int
  | 11 => .array .int
  | 12 => .int
  | 13 => .array .int
  | 14 => .int
  | 15 => .int
  | 16 => .int
  | 17 => .int
  | 18 => .boolean
  | 19 => .int
  | 20 => .int
  | 21 => .int
  | 22 => .int
  | 23 => .int
  | 24 => .array .int
  | 25 => .array .int
  | 26 => .array .int
  | 27 => .array .int
  | 28 => .array .int
  | 29 => .array .int
  | 30 => .array .int
  | 31 => .array .boolean
  | 32 => .array .int
  | 33 => .array .int
  | _ => .int
abbrev wsX100 : List Cond := u_ws RX10 TX10 35
theorem nmX10 : ∀ a, a < 35 → ∀ b, b < 35 → a ≠ b → (TX10 a).2.1 ≠ (TX10 b).2.1 := by decide +kernel
theorem tyX10_ok : ∀ k, k < 35 → parseFieldDescriptor (TX10 k).2.2.1 = some (tyX10 k) := by decide +kernel
abbrev cX10_init : ByteArray := prog_12_method_1_code
def yX10_init : MethodName := ⟨RX10, "<init>", "()V"⟩
abbrev cX10_thrown : ByteArray := prog_12_method_2_code
def yX10_thrown : MethodName := ⟨RX10, "thrown", "()I"⟩
abbrev cX10_can : ByteArray := prog_12_method_3_code
def yX10_can : MethodName := ⟨RX10, "can", "(I)Z"⟩
abbrev cX10_isIn : ByteArray := prog_12_method_4_code
def yX10_isIn : MethodName := ⟨RX10, "isIn", "(III)Z"⟩
abbrev cX10_isPoint : ByteArray := prog_12_method_5_code
def yX10_isPoint : MethodName := ⟨RX10, "isPoint", "(I)Z"⟩
abbrev cX10_isSent : ByteArray := prog_12_method_6_code
def yX10_isSent : MethodName := ⟨RX10, "isSent", "(II)Z"⟩
abbrev cX10_userOf : ByteArray := prog_12_method_7_code
def yX10_userOf : MethodName := ⟨RX10, "userOf", "(II)I"⟩
abbrev cX10_isFree : ByteArray := prog_12_method_8_code
def yX10_isFree : MethodName := ⟨RX10, "isFree", "(IIIII)Z"⟩
abbrev cX10_firstPlace : ByteArray := prog_12_method_9_code
def yX10_firstPlace : MethodName := ⟨RX10, "firstPlace", "(III)I"⟩
abbrev cX10_addPoint : ByteArray := prog_12_method_10_code
def yX10_addPoint : MethodName := ⟨RX10, "addPoint", "(IIIZ)I"⟩
abbrev cX10_points : ByteArray := prog_12_method_11_code
def yX10_points : MethodName := ⟨RX10, "points", "()I"⟩
abbrev cX10_place : ByteArray := prog_12_method_12_code
def yX10_place : MethodName := ⟨RX10, "place", "(I)I"⟩
abbrev cX10_spare : ByteArray := prog_12_method_13_code
def yX10_spare : MethodName := ⟨RX10, "spare", "()I"⟩
abbrev cX10_put : ByteArray := prog_12_method_14_code
def yX10_put : MethodName := ⟨RX10, "put", "(II)I"⟩
abbrev cX10_coded : ByteArray := prog_12_method_15_code
def yX10_coded : MethodName := ⟨RX10, "coded", "(II)I"⟩
abbrev cX10_read : ByteArray := prog_12_method_16_code
def yX10_read : MethodName := ⟨RX10, "read", "(II)I"⟩
abbrev cX10_sendWord : ByteArray := prog_12_method_17_code
def yX10_sendWord : MethodName := ⟨RX10, "sendWord", "()V"⟩
abbrev cX10_send : ByteArray := prog_12_method_18_code
def yX10_send : MethodName := ⟨RX10, "send", "(I)I"⟩
abbrev cX10_sent : ByteArray := prog_12_method_19_code
def yX10_sent : MethodName := ⟨RX10, "sent", "()I"⟩
abbrev cX10_onLine : ByteArray := prog_12_method_20_code
def yX10_onLine : MethodName := ⟨RX10, "onLine", "()I"⟩
abbrev cX10_isBit : ByteArray := prog_12_method_21_code
def yX10_isBit : MethodName := ⟨RX10, "isBit", "(I)Z"⟩
abbrev cX10_bit : ByteArray := prog_12_method_22_code
def yX10_bit : MethodName := ⟨RX10, "bit", "(I)I"⟩
abbrev cX10_flip : ByteArray := prog_12_method_23_code
def yX10_flip : MethodName := ⟨RX10, "flip", "(I)I"⟩
abbrev cX10_drop : ByteArray := prog_12_method_24_code
def yX10_drop : MethodName := ⟨RX10, "drop", "(II)V"⟩
abbrev cX10_cut : ByteArray := prog_12_method_25_code
def yX10_cut : MethodName := ⟨RX10, "cut", "(II)I"⟩
abbrev cX10_bits : ByteArray := prog_12_method_26_code
def yX10_bits : MethodName := ⟨RX10, "bits", "(II)I"⟩
abbrev cX10_sample : ByteArray := prog_12_method_27_code
def yX10_sample : MethodName := ⟨RX10, "sample", "(II)V"⟩
abbrev cX10_decodes : ByteArray := prog_12_method_28_code
def yX10_decodes : MethodName := ⟨RX10, "decodes", "()I"⟩
abbrev cX10_compares : ByteArray := prog_12_method_29_code
def yX10_compares : MethodName := ⟨RX10, "compares", "()V"⟩
abbrev cX10_takes : ByteArray := prog_12_method_30_code
def yX10_takes : MethodName := ⟨RX10, "takes", "(I)I"⟩
abbrev cX10_receive : ByteArray := prog_12_method_31_code
def yX10_receive : MethodName := ⟨RX10, "receive", "(I)I"⟩
abbrev cX10_state : ByteArray := prog_12_method_32_code
def yX10_state : MethodName := ⟨RX10, "state", "()I"⟩
abbrev cX10_taken : ByteArray := prog_12_method_33_code
def yX10_taken : MethodName := ⟨RX10, "taken", "()I"⟩
abbrev cX10_frames : ByteArray := prog_12_method_34_code
def yX10_frames : MethodName := ⟨RX10, "frames", "()I"⟩
abbrev cX10_lost : ByteArray := prog_12_method_35_code
def yX10_lost : MethodName := ⟨RX10, "lost", "()I"⟩
abbrev cX10_repeats : ByteArray := prog_12_method_36_code
def yX10_repeats : MethodName := ⟨RX10, "repeats", "()I"⟩
abbrev cX10_number : ByteArray := prog_12_method_37_code
def yX10_number : MethodName := ⟨RX10, "number", "()I"⟩
abbrev cX10_hasSample : ByteArray := prog_12_method_38_code
def yX10_hasSample : MethodName := ⟨RX10, "hasSample", "(I)Z"⟩
abbrev cX10_value : ByteArray := prog_12_method_39_code
def yX10_value : MethodName := ⟨RX10, "value", "(I)I"⟩
abbrev cX10_time : ByteArray := prog_12_method_40_code
def yX10_time : MethodName := ⟨RX10, "time", "(I)I"⟩
abbrev cX10_samples : ByteArray := prog_12_method_41_code
def yX10_samples : MethodName := ⟨RX10, "samples", "(I)I"⟩
abbrev cX10_missing : ByteArray := prog_12_method_42_code
def yX10_missing : MethodName := ⟨RX10, "missing", "(I)I"⟩
abbrev cX10_isOperand : ByteArray := prog_12_method_43_code
def yX10_isOperand : MethodName := ⟨RX10, "isOperand", "(I)Z"⟩
abbrev cX10_comesTo : ByteArray := prog_12_method_44_code
def yX10_comesTo : MethodName := ⟨RX10, "comesTo", "(III)Z"⟩
abbrev cX10_derive : ByteArray := prog_12_method_45_code
def yX10_derive : MethodName := ⟨RX10, "derive", "(IIII)V"⟩
abbrev cX10_hasValue : ByteArray := prog_12_method_46_code
def yX10_hasValue : MethodName := ⟨RX10, "hasValue", "(I)Z"⟩
abbrev cX10_valueOf : ByteArray := prog_12_method_47_code
def yX10_valueOf : MethodName := ⟨RX10, "valueOf", "(I)I"⟩
abbrev cX10_timeOf : ByteArray := prog_12_method_48_code
def yX10_timeOf : MethodName := ⟨RX10, "timeOf", "(I)I"⟩
abbrev cX10_made : ByteArray := prog_12_method_49_code
def yX10_made : MethodName := ⟨RX10, "made", "(IJJ)I"⟩
abbrev cX10_derives : ByteArray := prog_12_method_50_code
def yX10_derives : MethodName := ⟨RX10, "derives", "()V"⟩
abbrev cX10_isDerived : ByteArray := prog_12_method_51_code
def yX10_isDerived : MethodName := ⟨RX10, "isDerived", "(I)Z"⟩
abbrev cX10_derivedValue : ByteArray := prog_12_method_52_code
def yX10_derivedValue : MethodName := ⟨RX10, "derivedValue", "(I)I"⟩
abbrev cX10_derivedTime : ByteArray := prog_12_method_53_code
def yX10_derivedTime : MethodName := ⟨RX10, "derivedTime", "(I)I"⟩
abbrev cX10_matchesAt : ByteArray := prog_12_method_54_code
def yX10_matchesAt : MethodName := ⟨RX10, "matchesAt", "(I)I"⟩
abbrev cX10_matches : ByteArray := prog_12_method_55_code
def yX10_matches : MethodName := ⟨RX10, "matches", "(I)I"⟩
abbrev cX10_bestOffset : ByteArray := prog_12_method_56_code
def yX10_bestOffset : MethodName := ⟨RX10, "bestOffset", "()I"⟩
def RJx145de : String := "java/io/Serializable"
def TJx145de : u_T := fun k => match k with
  | _ => ("", "", "", false)
def tyJx145de : Nat → FieldType := fun k => match k with
  | _ => .int
abbrev wsJx145de0 : List Cond := u_ws RJx145de TJx145de 0
theorem nmJx145de : ∀ a, a < 0 → ∀ b, b < 0 → a ≠ b → (TJx145de a).2.1 ≠ (TJx145de b).2.1 := by decide +kernel
theorem tyJx145de_ok : ∀ k, k < 0 → parseFieldDescriptor (TJx145de k).2.2.1 = some (tyJx145de k) := by decide +kernel
def RJ6 : String := "java/lang/Integer"
def TJ6 : u_T := fun k => match k with
  | _ => ("", "", "", false)
def tyJ6 : Nat → FieldType := fun k => match k with
  | _ => .int
abbrev wsJ60 : List Cond := u_ws RJ6 TJ6 0
theorem nmJ6 : ∀ a, a < 0 → ∀ b, b < 0 → a ≠ b → (TJ6 a).2.1 ≠ (TJ6 b).2.1 := by decide +kernel
theorem tyJ6_ok : ∀ k, k < 0 → parseFieldDescriptor (TJ6 k).2.2.1 = some (tyJ6 k) := by decide +kernel
abbrev cJ6_bitCount_0f7a4 : ByteArray := prog_18_method_49_code
def yJ6_bitCount_0f7a4 : MethodName := ⟨RJ6, "bitCount", "(I)I"⟩
def RJ13 : String := "java/lang/Long"
def TJ13 : u_T := fun k => match k with
  | _ => ("", "", "", false)
def tyJ13 : Nat → FieldType := fun k => match k with
  | _ => .int
abbrev wsJ130 : List Cond := u_ws RJ13 TJ13 0
theorem nmJ13 : ∀ a, a < 0 → ∀ b, b < 0 → a ≠ b → (TJ13 a).2.1 ≠ (TJ13 b).2.1 := by decide +kernel
theorem tyJ13_ok : ∀ k, k < 0 → parseFieldDescriptor (TJ13 k).2.2.1 = some (tyJ13 k) := by decide +kernel
abbrev cJ13_bitCount_95d88 : ByteArray := prog_19_method_50_code
def yJ13_bitCount_95d88 : MethodName := ⟨RJ13, "bitCount", "(J)I"⟩
def RJ9 : String := "java/lang/Math"
def TJ9 : u_T := fun k => match k with
  | _ => ("", "", "", false)
def tyJ9 : Nat → FieldType := fun k => match k with
  | _ => .int
abbrev wsJ90 : List Cond := u_ws RJ9 TJ9 0
theorem nmJ9 : ∀ a, a < 0 → ∀ b, b < 0 → a ≠ b → (TJ9 a).2.1 ≠ (TJ9 b).2.1 := by decide +kernel
theorem tyJ9_ok : ∀ k, k < 0 → parseFieldDescriptor (TJ9 k).2.2.1 = some (tyJ9 k) := by decide +kernel
abbrev cJ9_max_7cf53 : ByteArray := prog_20_method_65_code
def yJ9_max_7cf53 : MethodName := ⟨RJ9, "max", "(II)I"⟩
abbrev cJ9_max_f86c9 : ByteArray := prog_20_method_66_code
def yJ9_max_f86c9 : MethodName := ⟨RJ9, "max", "(JJ)J"⟩
abbrev cJ9_min_7cf53 : ByteArray := prog_20_method_69_code
def yJ9_min_7cf53 : MethodName := ⟨RJ9, "min", "(II)I"⟩
abbrev cJ9_min_f86c9 : ByteArray := prog_20_method_70_code
def yJ9_min_f86c9 : MethodName := ⟨RJ9, "min", "(JJ)J"⟩
def RJ10 : String := "java/lang/System"
def TJ10 : u_T := fun k => match k with
  | _ => ("", "", "", false)
def tyJ10 : Nat → FieldType := fun k => match k with
  | _ => .int
abbrev wsJ100 : List Cond := u_ws RJ10 TJ10 0
theorem nmJ10 : ∀ a, a < 0 → ∀ b, b < 0 → a ≠ b → (TJ10 a).2.1 ≠ (TJ10 b).2.1 := by decide +kernel
theorem tyJ10_ok : ∀ k, k < 0 → parseFieldDescriptor (TJ10 k).2.2.1 = some (tyJ10 k) := by decide +kernel
def RL : String := "CommutatorLaw"
abbrev cL_addPoint : ByteArray := method_3_code
def yL_addPoint : MethodName := ⟨RL, "addPoint", "(LCommutator;IIIZ[J)I"⟩
abbrev cL_place : ByteArray := method_4_code
def yL_place : MethodName := ⟨RL, "place", "(LCommutator;I[J)I"⟩
abbrev cL_put : ByteArray := method_5_code
def yL_put : MethodName := ⟨RL, "put", "(LCommutator;II[J)I"⟩
abbrev cL_send : ByteArray := method_6_code
def yL_send : MethodName := ⟨RL, "send", "(LCommutator;I[J)I"⟩
abbrev cL_bit : ByteArray := method_7_code
def yL_bit : MethodName := ⟨RL, "bit", "(LCommutator;I[J)I"⟩
abbrev cL_flip : ByteArray := method_8_code
def yL_flip : MethodName := ⟨RL, "flip", "(LCommutator;I[J)I"⟩
abbrev cL_cut : ByteArray := method_9_code
def yL_cut : MethodName := ⟨RL, "cut", "(LCommutator;II[J)I"⟩
abbrev cL_receive : ByteArray := method_10_code
def yL_receive : MethodName := ⟨RL, "receive", "(LCommutator;I[J)I"⟩
abbrev cL_number : ByteArray := method_11_code
def yL_number : MethodName := ⟨RL, "number", "(LCommutator;[J)I"⟩
abbrev cL_value : ByteArray := method_12_code
def yL_value : MethodName := ⟨RL, "value", "(LCommutator;I[J)I"⟩
abbrev cL_time : ByteArray := method_13_code
def yL_time : MethodName := ⟨RL, "time", "(LCommutator;I[J)I"⟩
abbrev cL_samples : ByteArray := method_14_code
def yL_samples : MethodName := ⟨RL, "samples", "(LCommutator;I[J)I"⟩
abbrev cL_missing : ByteArray := method_15_code
def yL_missing : MethodName := ⟨RL, "missing", "(LCommutator;I[J)I"⟩
abbrev cL_derive : ByteArray := method_16_code
def yL_derive : MethodName := ⟨RL, "derive", "(LCommutator;IIII)I"⟩
abbrev cL_derivedValue : ByteArray := method_17_code
def yL_derivedValue : MethodName := ⟨RL, "derivedValue", "(LCommutator;I[J)I"⟩
abbrev cL_derivedTime : ByteArray := method_18_code
def yL_derivedTime : MethodName := ⟨RL, "derivedTime", "(LCommutator;I[J)I"⟩
abbrev cL_matches : ByteArray := method_19_code
def yL_matches : MethodName := ⟨RL, "matches", "(LCommutator;I[J)I"⟩
abbrev cL_law : ByteArray := code
def yL_law : MethodName := ⟨RL, "law", "([I)Z"⟩
def wsX0_init : List Cond := .code yX0_init cX0_init 1 none :: ([.methodLink RX0 3 objectInit, .instanceMethod objectInit, .code objectInit ⟨#[0xb1]⟩ 1 none])
def wsX5_at : List Cond := .code yX5_at cX5_at 2 (some (.object "Commutator$Point")) :: ([.fieldLink RX5 21 "Commutator$PointTable" "count" "I", .fieldLink RX5 11 "Commutator$PointTable" "rows" "[LCommutator$Point;"] ++ wsX50)
def wsX4_isSentIn : List Cond := .code yX4_isSentIn cX4_isSentIn 2 (some .boolean) :: ([.fieldLink RX4 18 "Commutator$Point" "period" "I", .fieldLink RX4 25 "Commutator$Point" "phase" "I"] ++ wsX40)
def wsX4_samplesInFrame : List Cond := .code yX4_samplesInFrame cX4_samplesInFrame 1 (some .int) :: ([.fieldLink RX4 21 "Commutator$Point" "twice" "Z"] ++ wsX40)
def wsX4_noteMissing : List Cond := .code yX4_noteMissing cX4_noteMissing 1 none :: ([.fieldLink RX4 62 "Commutator$Point" "missingCount" "I", .methodLink RX4 46 yX4_samplesInFrame, .instanceMethod yX4_samplesInFrame, .selects RX4 yX4_samplesInFrame yX4_samplesInFrame, .initialized RX4, .code yX4_samplesInFrame cX4_samplesInFrame 1 (some .int), .fieldLink RX4 21 "Commutator$Point" "twice" "Z"] ++ wsX40)
def wsX0_noteLost_r1 : List Cond := [Cond.fieldLink RX0 32 "Commutator$Decoder" "lostFrames" "I", Cond.fieldLink RX0 18 "Commutator$Decoder" "latestCounter" "I", Cond.methodLink RX0 40 yX5_at, Cond.instanceMethod yX5_at, Cond.selects RX5 yX5_at yX5_at, Cond.initialized RX5, Cond.code yX5_at cX5_at 2 (some (.object "Commutator$Point")), Cond.fieldLink RX5 21 "Commutator$PointTable" "count" "I", Cond.fieldLink RX5 11 "Commutator$PointTable" "rows" "[LCommutator$Point;", Cond.methodLink RX0 44 yX4_isSentIn, Cond.instanceMethod yX4_isSentIn, Cond.selects RX4 yX4_isSentIn yX4_isSentIn, Cond.initialized RX4, Cond.code yX4_isSentIn cX4_isSentIn 2 (some .boolean), Cond.fieldLink RX4 18 "Commutator$Point" "period" "I", Cond.fieldLink RX4 25 "Commutator$Point" "phase" "I", Cond.methodLink RX0 50 yX4_noteMissing, Cond.instanceMethod yX4_noteMissing, Cond.selects RX4 yX4_noteMissing yX4_noteMissing, Cond.code yX4_noteMissing cX4_noteMissing 1 none, Cond.fieldLink RX4 62 "Commutator$Point" "missingCount" "I", Cond.methodLink RX4 46 yX4_samplesInFrame, Cond.instanceMethod yX4_samplesInFrame, Cond.selects RX4 yX4_samplesInFrame yX4_samplesInFrame]
def wsX0_noteLost_r2 : List Cond := [Cond.code yX4_samplesInFrame cX4_samplesInFrame 1 (some .int), Cond.fieldLink RX4 21 "Commutator$Point" "twice" "Z"]
def wsX0_noteLost : List Cond := .code yX0_noteLost cX0_noteLost 6 none :: ((wsX0_noteLost_r1 ++ wsX0_noteLost_r2) ++ wsX00 ++ wsX50 ++ wsX40)
def wsX4_firstBit : List Cond := .code yX4_firstBit cX4_firstBit 2 (some .int) :: ([.fieldLink RX4 28 "Commutator$Point" "offset" "I"] ++ wsX40)
def wsX4_shift : List Cond := .code yX4_shift cX4_shift 2 (some .int) :: ([.fieldLink RX4 9 "Commutator$Point" "width" "I", .methodLink RX4 42 yX4_firstBit, .instanceMethod yX4_firstBit, .selects RX4 yX4_firstBit yX4_firstBit, .initialized RX4, .code yX4_firstBit cX4_firstBit 2 (some .int), .fieldLink RX4 28 "Commutator$Point" "offset" "I"] ++ wsX40)
def wsX4_signWeight : List Cond := .code yX4_signWeight cX4_signWeight 1 (some .int) :: ([.fieldLink RX4 9 "Commutator$Point" "width" "I"] ++ wsX40)
def wsX4_decode : List Cond := .code yX4_decode cX4_decode 3 (some .int) :: ([.fieldLink RX4 15 "Commutator$Point" "convention" "I", .fieldLink RX4 9 "Commutator$Point" "width" "I", .methodLink RX4 38 yX4_signWeight, .instanceMethod yX4_signWeight, .selects RX4 yX4_signWeight yX4_signWeight, .initialized RX4, .code yX4_signWeight cX4_signWeight 1 (some .int)] ++ wsX40)
def wsX6_set : List Cond := .code yX6_set cX6_set 3 none :: ([.fieldLink RX6 7 "Commutator$Reading" "known" "Z", .fieldLink RX6 13 "Commutator$Reading" "amount" "I", .fieldLink RX6 17 "Commutator$Reading" "moment" "I"] ++ wsX60)
def wsX4_readFrom_r1 : List Cond := [Cond.fieldLink RX4 9 "Commutator$Point" "width" "I", Cond.fieldLink RX4 34 "Commutator$Point" "latest" "LCommutator$Reading;", Cond.fieldLink RX4 59 "Commutator$Point" "sampleCount" "I", Cond.methodLink RX4 46 yX4_samplesInFrame, Cond.instanceMethod yX4_samplesInFrame, Cond.selects RX4 yX4_samplesInFrame yX4_samplesInFrame, Cond.initialized RX4, Cond.code yX4_samplesInFrame cX4_samplesInFrame 1 (some .int), Cond.fieldLink RX4 21 "Commutator$Point" "twice" "Z", Cond.methodLink RX4 49 yX4_shift, Cond.instanceMethod yX4_shift, Cond.selects RX4 yX4_shift yX4_shift, Cond.code yX4_shift cX4_shift 2 (some .int), Cond.methodLink RX4 42 yX4_firstBit, Cond.instanceMethod yX4_firstBit, Cond.selects RX4 yX4_firstBit yX4_firstBit, Cond.code yX4_firstBit cX4_firstBit 2 (some .int), Cond.fieldLink RX4 28 "Commutator$Point" "offset" "I", Cond.methodLink RX4 52 yX4_decode, Cond.instanceMethod yX4_decode, Cond.selects RX4 yX4_decode yX4_decode, Cond.code yX4_decode cX4_decode 3 (some .int), Cond.fieldLink RX4 15 "Commutator$Point" "convention" "I", Cond.methodLink RX4 38 yX4_signWeight]
def wsX4_readFrom_r2 : List Cond := [Cond.instanceMethod yX4_signWeight, Cond.selects RX4 yX4_signWeight yX4_signWeight, Cond.code yX4_signWeight cX4_signWeight 1 (some .int), Cond.methodLink RX4 55 yX6_set, Cond.instanceMethod yX6_set, Cond.selects RX6 yX6_set yX6_set, Cond.initialized RX6, Cond.code yX6_set cX6_set 3 none, Cond.fieldLink RX6 7 "Commutator$Reading" "known" "Z", Cond.fieldLink RX6 13 "Commutator$Reading" "amount" "I", Cond.fieldLink RX6 17 "Commutator$Reading" "moment" "I"]
def wsX4_readFrom : List Cond := .code yX4_readFrom cX4_readFrom 6 none :: ((wsX4_readFrom_r1 ++ wsX4_readFrom_r2) ++ wsX40 ++ wsX60)
def wsX0_giveSamples_r1 : List Cond := [Cond.fieldLink RX0 18 "Commutator$Decoder" "latestCounter" "I", Cond.fieldLink RX0 15 "Commutator$Decoder" "latestNumber" "I", Cond.methodLink RX0 40 yX5_at, Cond.instanceMethod yX5_at, Cond.selects RX5 yX5_at yX5_at, Cond.initialized RX5, Cond.code yX5_at cX5_at 2 (some (.object "Commutator$Point")), Cond.fieldLink RX5 21 "Commutator$PointTable" "count" "I", Cond.fieldLink RX5 11 "Commutator$PointTable" "rows" "[LCommutator$Point;", Cond.methodLink RX0 44 yX4_isSentIn, Cond.instanceMethod yX4_isSentIn, Cond.selects RX4 yX4_isSentIn yX4_isSentIn, Cond.initialized RX4, Cond.code yX4_isSentIn cX4_isSentIn 2 (some .boolean), Cond.fieldLink RX4 18 "Commutator$Point" "period" "I", Cond.fieldLink RX4 25 "Commutator$Point" "phase" "I", Cond.methodLink RX0 53 yX4_readFrom, Cond.instanceMethod yX4_readFrom, Cond.selects RX4 yX4_readFrom yX4_readFrom, Cond.code yX4_readFrom cX4_readFrom 6 none, Cond.fieldLink RX4 9 "Commutator$Point" "width" "I", Cond.fieldLink RX4 34 "Commutator$Point" "latest" "LCommutator$Reading;", Cond.fieldLink RX4 59 "Commutator$Point" "sampleCount" "I", Cond.methodLink RX4 46 yX4_samplesInFrame]
def wsX0_giveSamples_r2 : List Cond := [Cond.instanceMethod yX4_samplesInFrame, Cond.selects RX4 yX4_samplesInFrame yX4_samplesInFrame, Cond.code yX4_samplesInFrame cX4_samplesInFrame 1 (some .int), Cond.fieldLink RX4 21 "Commutator$Point" "twice" "Z", Cond.methodLink RX4 49 yX4_shift, Cond.instanceMethod yX4_shift, Cond.selects RX4 yX4_shift yX4_shift, Cond.code yX4_shift cX4_shift 2 (some .int), Cond.methodLink RX4 42 yX4_firstBit, Cond.instanceMethod yX4_firstBit, Cond.selects RX4 yX4_firstBit yX4_firstBit, Cond.code yX4_firstBit cX4_firstBit 2 (some .int), Cond.fieldLink RX4 28 "Commutator$Point" "offset" "I", Cond.methodLink RX4 52 yX4_decode, Cond.instanceMethod yX4_decode, Cond.selects RX4 yX4_decode yX4_decode, Cond.code yX4_decode cX4_decode 3 (some .int), Cond.fieldLink RX4 15 "Commutator$Point" "convention" "I", Cond.methodLink RX4 38 yX4_signWeight, Cond.instanceMethod yX4_signWeight, Cond.selects RX4 yX4_signWeight yX4_signWeight, Cond.code yX4_signWeight cX4_signWeight 1 (some .int), Cond.methodLink RX4 55 yX6_set, Cond.instanceMethod yX6_set]
def wsX0_giveSamples_r3 : List Cond := [Cond.selects RX6 yX6_set yX6_set, Cond.initialized RX6, Cond.code yX6_set cX6_set 3 none, Cond.fieldLink RX6 7 "Commutator$Reading" "known" "Z", Cond.fieldLink RX6 13 "Commutator$Reading" "amount" "I", Cond.fieldLink RX6 17 "Commutator$Reading" "moment" "I"]
def wsX0_giveSamples : List Cond := .code yX0_giveSamples cX0_giveSamples 6 none :: ((wsX0_giveSamples_r1 ++ (wsX0_giveSamples_r2 ++ wsX0_giveSamples_r3)) ++ wsX50 ++ wsX00 ++ wsX40 ++ wsX60)
def wsX0_decode_r1 : List Cond := [Cond.fieldLink RX0 9 "Commutator$Decoder" "usedFrames" "I", Cond.fieldLink RX0 15 "Commutator$Decoder" "latestNumber" "I", Cond.fieldLink RX0 18 "Commutator$Decoder" "latestCounter" "I", Cond.fieldLink RX0 21 "Commutator$Decoder" "repeatedFrames" "I", Cond.methodLink RX0 24 yX0_noteLost, Cond.instanceMethod yX0_noteLost, Cond.selects RX0 yX0_noteLost yX0_noteLost, Cond.initialized RX0, Cond.code yX0_noteLost cX0_noteLost 6 none, Cond.fieldLink RX0 32 "Commutator$Decoder" "lostFrames" "I", Cond.methodLink RX0 40 yX5_at, Cond.instanceMethod yX5_at, Cond.selects RX5 yX5_at yX5_at, Cond.initialized RX5, Cond.code yX5_at cX5_at 2 (some (.object "Commutator$Point")), Cond.fieldLink RX5 21 "Commutator$PointTable" "count" "I", Cond.fieldLink RX5 11 "Commutator$PointTable" "rows" "[LCommutator$Point;", Cond.methodLink RX0 44 yX4_isSentIn, Cond.instanceMethod yX4_isSentIn, Cond.selects RX4 yX4_isSentIn yX4_isSentIn, Cond.initialized RX4, Cond.code yX4_isSentIn cX4_isSentIn 2 (some .boolean), Cond.fieldLink RX4 18 "Commutator$Point" "period" "I", Cond.fieldLink RX4 25 "Commutator$Point" "phase" "I"]
def wsX0_decode_r2 : List Cond := [Cond.methodLink RX0 50 yX4_noteMissing, Cond.instanceMethod yX4_noteMissing, Cond.selects RX4 yX4_noteMissing yX4_noteMissing, Cond.code yX4_noteMissing cX4_noteMissing 1 none, Cond.fieldLink RX4 62 "Commutator$Point" "missingCount" "I", Cond.methodLink RX4 46 yX4_samplesInFrame, Cond.instanceMethod yX4_samplesInFrame, Cond.selects RX4 yX4_samplesInFrame yX4_samplesInFrame, Cond.code yX4_samplesInFrame cX4_samplesInFrame 1 (some .int), Cond.fieldLink RX4 21 "Commutator$Point" "twice" "Z", Cond.methodLink RX0 28 yX0_giveSamples, Cond.instanceMethod yX0_giveSamples, Cond.selects RX0 yX0_giveSamples yX0_giveSamples, Cond.code yX0_giveSamples cX0_giveSamples 6 none, Cond.methodLink RX0 53 yX4_readFrom, Cond.instanceMethod yX4_readFrom, Cond.selects RX4 yX4_readFrom yX4_readFrom, Cond.code yX4_readFrom cX4_readFrom 6 none, Cond.fieldLink RX4 9 "Commutator$Point" "width" "I", Cond.fieldLink RX4 34 "Commutator$Point" "latest" "LCommutator$Reading;", Cond.fieldLink RX4 59 "Commutator$Point" "sampleCount" "I", Cond.methodLink RX4 49 yX4_shift, Cond.instanceMethod yX4_shift, Cond.selects RX4 yX4_shift yX4_shift]
def wsX0_decode_r3 : List Cond := [Cond.code yX4_shift cX4_shift 2 (some .int), Cond.methodLink RX4 42 yX4_firstBit, Cond.instanceMethod yX4_firstBit, Cond.selects RX4 yX4_firstBit yX4_firstBit, Cond.code yX4_firstBit cX4_firstBit 2 (some .int), Cond.fieldLink RX4 28 "Commutator$Point" "offset" "I", Cond.methodLink RX4 52 yX4_decode, Cond.instanceMethod yX4_decode, Cond.selects RX4 yX4_decode yX4_decode, Cond.code yX4_decode cX4_decode 3 (some .int), Cond.fieldLink RX4 15 "Commutator$Point" "convention" "I", Cond.methodLink RX4 38 yX4_signWeight, Cond.instanceMethod yX4_signWeight, Cond.selects RX4 yX4_signWeight yX4_signWeight, Cond.code yX4_signWeight cX4_signWeight 1 (some .int), Cond.methodLink RX4 55 yX6_set, Cond.instanceMethod yX6_set, Cond.selects RX6 yX6_set yX6_set, Cond.initialized RX6, Cond.code yX6_set cX6_set 3 none, Cond.fieldLink RX6 7 "Commutator$Reading" "known" "Z", Cond.fieldLink RX6 13 "Commutator$Reading" "amount" "I", Cond.fieldLink RX6 17 "Commutator$Reading" "moment" "I"]
def wsX0_decode : List Cond := .code yX0_decode cX0_decode 6 none :: ((wsX0_decode_r1 ++ (wsX0_decode_r2 ++ wsX0_decode_r3)) ++ wsX00 ++ wsX50 ++ wsX40 ++ wsX60)
def wsX6_init : List Cond := .code yX6_init cX6_init 1 none :: ([.methodLink RX6 1 objectInit, .instanceMethod objectInit, .code objectInit ⟨#[0xb1]⟩ 1 none])
def wsX1_init : List Cond := .code yX1_init cX1_init 1 none :: ([.methodLink RX1 1 objectInit, .instanceMethod objectInit, .code objectInit ⟨#[0xb1]⟩ 1 none, .classLink RX1 7 RX6, .instantiable RX6 3, .initialized RX6, .fieldLink RX1 10 "Commutator$Derived" "result" "LCommutator$Reading;", .instanceMethod yX6_init, .code yX6_init cX6_init 1 none, .methodLink RX6 1 objectInit] ++ wsX60 ++ wsX10)
def wsX1_operate : List Cond := .code yX1_operate cX1_operate 5 (some .long) :: ([.fieldLink RX1 46 "Commutator$Derived" "operation" "I", .methodLink RX1 33 Lib.MathLoose.max_long.x, .static Lib.MathLoose.max_long.x, .initialized "java/lang/Math", .code Lib.MathLoose.max_long.x Lib.MathLoose.max_long.code 4 (some .long), .methodLink RX1 28 Lib.MathLoose.min_long.x, .static Lib.MathLoose.min_long.x, .code Lib.MathLoose.min_long.x Lib.MathLoose.min_long.code 4 (some .long)] ++ wsX10)
def wsX1_combine_r1 : List Cond := [Cond.constantLong RX1 16 (-1000000), Cond.constantLong RX1 18 (1000000), Cond.methodLink RX1 28 Lib.MathLoose.min_long.x, Cond.static Lib.MathLoose.min_long.x, Cond.initialized "java/lang/Math", Cond.code Lib.MathLoose.min_long.x Lib.MathLoose.min_long.code 4 (some .long), Cond.methodLink RX1 33 Lib.MathLoose.max_long.x, Cond.static Lib.MathLoose.max_long.x, Cond.code Lib.MathLoose.max_long.x Lib.MathLoose.max_long.code 4 (some .long), Cond.fieldLink RX1 10 "Commutator$Derived" "result" "LCommutator$Reading;", Cond.methodLink RX1 39 Lib.Math.max.name, Cond.static Lib.Math.max.name, Cond.code Lib.Math.max.name Lib.Math.max.code 2 (some .int), Cond.methodLink RX1 24 yX1_operate, Cond.instanceMethod yX1_operate, Cond.selects RX1 yX1_operate yX1_operate, Cond.initialized RX1, Cond.code yX1_operate cX1_operate 5 (some .long), Cond.fieldLink RX1 46 "Commutator$Derived" "operation" "I", Cond.methodLink RX1 42 yX6_set, Cond.instanceMethod yX6_set, Cond.selects RX6 yX6_set yX6_set, Cond.initialized RX6, Cond.code yX6_set cX6_set 3 none]
def wsX1_combine_r2 : List Cond := [Cond.fieldLink RX6 7 "Commutator$Reading" "known" "Z", Cond.fieldLink RX6 13 "Commutator$Reading" "amount" "I", Cond.fieldLink RX6 17 "Commutator$Reading" "moment" "I"]
def wsX1_combine : List Cond := .code yX1_combine cX1_combine 4 none :: ((wsX1_combine_r1 ++ wsX1_combine_r2) ++ wsX60 ++ wsX10)
def wsX2_init : List Cond := .code yX2_init cX2_init 2 none :: ([.methodLink RX2 3 objectInit, .instanceMethod objectInit, .code objectInit ⟨#[0xb1]⟩ 1 none, .classLink RX2 9 RX1, .fieldLink RX2 11 "Commutator$DerivedTable" "rows" "[LCommutator$Derived;", .instantiable RX1 5, .initialized RX1, .instanceMethod yX1_init, .code yX1_init cX1_init 1 none, .methodLink RX1 1 objectInit, .classLink RX1 7 RX6, .instantiable RX6 3, .initialized RX6, .fieldLink RX1 10 "Commutator$Derived" "result" "LCommutator$Reading;", .instanceMethod yX6_init, .code yX6_init cX6_init 1 none, .methodLink RX6 1 objectInit] ++ wsX20 ++ wsX10 ++ wsX60)
def wsX2_at : List Cond := .code yX2_at cX2_at 2 (some (.object "Commutator$Derived")) :: ([.fieldLink RX2 11 "Commutator$DerivedTable" "rows" "[LCommutator$Derived;"] ++ wsX20)
def wsX2_define : List Cond := .code yX2_define cX2_define 6 none :: ([.methodLink RX2 18 yX2_at, .instanceMethod yX2_at, .selects RX2 yX2_at yX2_at, .initialized RX2, .code yX2_at cX2_at 2 (some (.object "Commutator$Derived")), .fieldLink RX2 11 "Commutator$DerivedTable" "rows" "[LCommutator$Derived;"] ++ wsX10 ++ wsX20)
def wsX2_operandMask : List Cond := .code yX2_operandMask cX2_operandMask 1 (some .int) :: ([])
def wsX2_needsOf : List Cond := .code yX2_needsOf cX2_needsOf 5 (some .int) :: ([.fieldLink RX2 11 "Commutator$DerivedTable" "rows" "[LCommutator$Derived;", .methodLink RX2 36 yX2_operandMask, .static yX2_operandMask, .initialized RX2, .code yX2_operandMask cX2_operandMask 1 (some .int)] ++ wsX20 ++ wsX10)
def wsX2_wouldNeedItself : List Cond := .code yX2_wouldNeedItself cX2_wouldNeedItself 6 (some .boolean) :: ([.fieldLink RX2 11 "Commutator$DerivedTable" "rows" "[LCommutator$Derived;", .methodLink RX2 36 yX2_operandMask, .static yX2_operandMask, .initialized RX2, .code yX2_operandMask cX2_operandMask 1 (some .int), .methodLink RX2 40 yX2_needsOf, .instanceMethod yX2_needsOf, .selects RX2 yX2_needsOf yX2_needsOf, .code yX2_needsOf cX2_needsOf 5 (some .int)] ++ wsX20 ++ wsX10)
def wsX6_forget : List Cond := .code yX6_forget cX6_forget 1 none :: ([.fieldLink RX6 7 "Commutator$Reading" "known" "Z"] ++ wsX60)
def wsX2_operand : List Cond := .code yX2_operand cX2_operand 4 (some (.object "Commutator$Reading")) :: ([.methodLink RX2 18 yX2_at, .instanceMethod yX2_at, .selects RX2 yX2_at yX2_at, .initialized RX2, .code yX2_at cX2_at 2 (some (.object "Commutator$Derived")), .fieldLink RX2 11 "Commutator$DerivedTable" "rows" "[LCommutator$Derived;", .methodLink RX2 67 yX5_at, .instanceMethod yX5_at, .selects RX5 yX5_at yX5_at, .initialized RX5, .code yX5_at cX5_at 2 (some (.object "Commutator$Point")), .fieldLink RX5 21 "Commutator$PointTable" "count" "I", .fieldLink RX5 11 "Commutator$PointTable" "rows" "[LCommutator$Point;"] ++ wsX10 ++ wsX40 ++ wsX20 ++ wsX50)
def wsX2_computeOne_r1 : List Cond := [Cond.methodLink RX2 59 yX2_operand, Cond.instanceMethod yX2_operand, Cond.selects RX2 yX2_operand yX2_operand, Cond.initialized RX2, Cond.code yX2_operand cX2_operand 4 (some (.object "Commutator$Reading")), Cond.methodLink RX2 18 yX2_at, Cond.instanceMethod yX2_at, Cond.selects RX2 yX2_at yX2_at, Cond.code yX2_at cX2_at 2 (some (.object "Commutator$Derived")), Cond.fieldLink RX2 11 "Commutator$DerivedTable" "rows" "[LCommutator$Derived;", Cond.methodLink RX2 67 yX5_at, Cond.instanceMethod yX5_at, Cond.selects RX5 yX5_at yX5_at, Cond.initialized RX5, Cond.code yX5_at cX5_at 2 (some (.object "Commutator$Point")), Cond.fieldLink RX5 21 "Commutator$PointTable" "count" "I", Cond.fieldLink RX5 11 "Commutator$PointTable" "rows" "[LCommutator$Point;", Cond.methodLink RX2 63 yX1_combine, Cond.instanceMethod yX1_combine, Cond.selects RX1 yX1_combine yX1_combine, Cond.initialized RX1, Cond.code yX1_combine cX1_combine 4 none, Cond.constantLong RX1 16 (-1000000), Cond.constantLong RX1 18 (1000000)]
def wsX2_computeOne_r2 : List Cond := [Cond.methodLink RX1 28 Lib.MathLoose.min_long.x, Cond.static Lib.MathLoose.min_long.x, Cond.initialized "java/lang/Math", Cond.code Lib.MathLoose.min_long.x Lib.MathLoose.min_long.code 4 (some .long), Cond.methodLink RX1 33 Lib.MathLoose.max_long.x, Cond.static Lib.MathLoose.max_long.x, Cond.code Lib.MathLoose.max_long.x Lib.MathLoose.max_long.code 4 (some .long), Cond.fieldLink RX1 10 "Commutator$Derived" "result" "LCommutator$Reading;", Cond.methodLink RX1 39 Lib.Math.max.name, Cond.static Lib.Math.max.name, Cond.code Lib.Math.max.name Lib.Math.max.code 2 (some .int), Cond.methodLink RX1 24 yX1_operate, Cond.instanceMethod yX1_operate, Cond.selects RX1 yX1_operate yX1_operate, Cond.code yX1_operate cX1_operate 5 (some .long), Cond.fieldLink RX1 46 "Commutator$Derived" "operation" "I", Cond.methodLink RX1 42 yX6_set, Cond.instanceMethod yX6_set, Cond.selects RX6 yX6_set yX6_set, Cond.initialized RX6, Cond.code yX6_set cX6_set 3 none, Cond.fieldLink RX6 7 "Commutator$Reading" "known" "Z", Cond.fieldLink RX6 13 "Commutator$Reading" "amount" "I", Cond.fieldLink RX6 17 "Commutator$Reading" "moment" "I"]
def wsX2_computeOne : List Cond := .code yX2_computeOne cX2_computeOne 5 none :: ((wsX2_computeOne_r1 ++ wsX2_computeOne_r2) ++ wsX10 ++ wsX60 ++ wsX40 ++ wsX20 ++ wsX50)
def wsX2_compute_r1 : List Cond := [Cond.fieldLink RX2 11 "Commutator$DerivedTable" "rows" "[LCommutator$Derived;", Cond.methodLink RX2 47 yX6_forget, Cond.instanceMethod yX6_forget, Cond.selects RX6 yX6_forget yX6_forget, Cond.initialized RX6, Cond.code yX6_forget cX6_forget 1 none, Cond.fieldLink RX6 7 "Commutator$Reading" "known" "Z", Cond.methodLink RX2 52 yX2_computeOne, Cond.instanceMethod yX2_computeOne, Cond.selects RX2 yX2_computeOne yX2_computeOne, Cond.initialized RX2, Cond.code yX2_computeOne cX2_computeOne 5 none, Cond.methodLink RX2 59 yX2_operand, Cond.instanceMethod yX2_operand, Cond.selects RX2 yX2_operand yX2_operand, Cond.code yX2_operand cX2_operand 4 (some (.object "Commutator$Reading")), Cond.methodLink RX2 18 yX2_at, Cond.instanceMethod yX2_at, Cond.selects RX2 yX2_at yX2_at, Cond.code yX2_at cX2_at 2 (some (.object "Commutator$Derived")), Cond.methodLink RX2 67 yX5_at, Cond.instanceMethod yX5_at, Cond.selects RX5 yX5_at yX5_at, Cond.initialized RX5]
def wsX2_compute_r2 : List Cond := [Cond.code yX5_at cX5_at 2 (some (.object "Commutator$Point")), Cond.fieldLink RX5 21 "Commutator$PointTable" "count" "I", Cond.fieldLink RX5 11 "Commutator$PointTable" "rows" "[LCommutator$Point;", Cond.methodLink RX2 63 yX1_combine, Cond.instanceMethod yX1_combine, Cond.selects RX1 yX1_combine yX1_combine, Cond.initialized RX1, Cond.code yX1_combine cX1_combine 4 none, Cond.constantLong RX1 16 (-1000000), Cond.constantLong RX1 18 (1000000), Cond.methodLink RX1 28 Lib.MathLoose.min_long.x, Cond.static Lib.MathLoose.min_long.x, Cond.initialized "java/lang/Math", Cond.code Lib.MathLoose.min_long.x Lib.MathLoose.min_long.code 4 (some .long), Cond.methodLink RX1 33 Lib.MathLoose.max_long.x, Cond.static Lib.MathLoose.max_long.x, Cond.code Lib.MathLoose.max_long.x Lib.MathLoose.max_long.code 4 (some .long), Cond.fieldLink RX1 10 "Commutator$Derived" "result" "LCommutator$Reading;", Cond.methodLink RX1 39 Lib.Math.max.name, Cond.static Lib.Math.max.name, Cond.code Lib.Math.max.name Lib.Math.max.code 2 (some .int), Cond.methodLink RX1 24 yX1_operate, Cond.instanceMethod yX1_operate, Cond.selects RX1 yX1_operate yX1_operate]
def wsX2_compute_r3 : List Cond := [Cond.code yX1_operate cX1_operate 5 (some .long), Cond.fieldLink RX1 46 "Commutator$Derived" "operation" "I", Cond.methodLink RX1 42 yX6_set, Cond.instanceMethod yX6_set, Cond.selects RX6 yX6_set yX6_set, Cond.code yX6_set cX6_set 3 none, Cond.fieldLink RX6 13 "Commutator$Reading" "amount" "I", Cond.fieldLink RX6 17 "Commutator$Reading" "moment" "I"]
def wsX2_compute : List Cond := .code yX2_compute cX2_compute 5 (some (.object "Commutator$Reading")) :: ((wsX2_compute_r1 ++ (wsX2_compute_r2 ++ wsX2_compute_r3)) ++ wsX20 ++ wsX10 ++ wsX60 ++ wsX40 ++ wsX50)
def wsX3_init : List Cond := .code yX3_init cX3_init 1 none :: ([.methodLink RX3 3 objectInit, .instanceMethod objectInit, .code objectInit ⟨#[0xb1]⟩ 1 none, .arrayClass .int, .fieldLink RX3 9 "Commutator$Line" "bits" "[I"] ++ wsX30)
def wsX3_length : List Cond := .code yX3_length cX3_length 1 (some .int) :: ([.fieldLink RX3 15 "Commutator$Line" "end" "I", .fieldLink RX3 19 "Commutator$Line" "head" "I"] ++ wsX30)
def wsX3_holds : List Cond := .code yX3_holds cX3_holds 3 (some .boolean) :: ([.methodLink RX3 22 yX3_length, .instanceMethod yX3_length, .selects RX3 yX3_length yX3_length, .initialized RX3, .code yX3_length cX3_length 1 (some .int), .fieldLink RX3 15 "Commutator$Line" "end" "I", .fieldLink RX3 19 "Commutator$Line" "head" "I"] ++ wsX30)
def wsX3_append : List Cond := .code yX3_append cX3_append 2 none :: ([.fieldLink RX3 15 "Commutator$Line" "end" "I", .fieldLink RX3 9 "Commutator$Line" "bits" "[I"] ++ wsX30)
def wsX3_look : List Cond := .code yX3_look cX3_look 2 (some .int) :: ([.fieldLink RX3 9 "Commutator$Line" "bits" "[I", .fieldLink RX3 19 "Commutator$Line" "head" "I", .methodLink RX3 26 yX3_holds, .instanceMethod yX3_holds, .selects RX3 yX3_holds yX3_holds, .initialized RX3, .code yX3_holds cX3_holds 3 (some .boolean), .methodLink RX3 22 yX3_length, .instanceMethod yX3_length, .selects RX3 yX3_length yX3_length, .code yX3_length cX3_length 1 (some .int), .fieldLink RX3 15 "Commutator$Line" "end" "I"] ++ wsX30)
def wsX3_turnOver : List Cond := .code yX3_turnOver cX3_turnOver 2 (some .int) :: ([.fieldLink RX3 9 "Commutator$Line" "bits" "[I", .fieldLink RX3 19 "Commutator$Line" "head" "I", .methodLink RX3 26 yX3_holds, .instanceMethod yX3_holds, .selects RX3 yX3_holds yX3_holds, .initialized RX3, .code yX3_holds cX3_holds 3 (some .boolean), .methodLink RX3 22 yX3_length, .instanceMethod yX3_length, .selects RX3 yX3_length yX3_length, .code yX3_length cX3_length 1 (some .int), .fieldLink RX3 15 "Commutator$Line" "end" "I"] ++ wsX30)
def wsX3_remove : List Cond := .code yX3_remove cX3_remove 4 none :: ([.fieldLink RX3 19 "Commutator$Line" "head" "I", .fieldLink RX3 9 "Commutator$Line" "bits" "[I", .fieldLink RX3 15 "Commutator$Line" "end" "I", .methodLink RX3 30 arraycopyName, .native arraycopyName, .static arraycopyName, .initialized "java/lang/System", .methodLink RX3 26 yX3_holds, .instanceMethod yX3_holds, .selects RX3 yX3_holds yX3_holds, .initialized RX3, .code yX3_holds cX3_holds 3 (some .boolean), .methodLink RX3 22 yX3_length, .instanceMethod yX3_length, .selects RX3 yX3_length yX3_length, .code yX3_length cX3_length 1 (some .int)] ++ wsX30)
def wsX3_takeFirst : List Cond := .code yX3_takeFirst cX3_takeFirst 2 (some .int) :: ([.fieldLink RX3 9 "Commutator$Line" "bits" "[I", .fieldLink RX3 19 "Commutator$Line" "head" "I", .methodLink RX3 26 yX3_holds, .instanceMethod yX3_holds, .selects RX3 yX3_holds yX3_holds, .initialized RX3, .code yX3_holds cX3_holds 3 (some .boolean), .methodLink RX3 22 yX3_length, .instanceMethod yX3_length, .selects RX3 yX3_length yX3_length, .code yX3_length cX3_length 1 (some .int), .fieldLink RX3 15 "Commutator$Line" "end" "I"] ++ wsX30)
def wsX4_init : List Cond := .code yX4_init cX4_init 7 none :: ([.methodLink RX4 3 objectInit, .instanceMethod objectInit, .code objectInit ⟨#[0xb1]⟩ 1 none, .fieldLink RX4 9 "Commutator$Point" "width" "I", .fieldLink RX4 15 "Commutator$Point" "convention" "I", .fieldLink RX4 18 "Commutator$Point" "period" "I", .fieldLink RX4 21 "Commutator$Point" "twice" "Z", .fieldLink RX4 25 "Commutator$Point" "phase" "I", .fieldLink RX4 28 "Commutator$Point" "offset" "I", .classLink RX4 31 RX6, .instantiable RX6 3, .initialized RX6, .fieldLink RX4 34 "Commutator$Point" "latest" "LCommutator$Reading;", .instanceMethod yX6_init, .code yX6_init cX6_init 1 none, .methodLink RX6 1 objectInit] ++ wsX40 ++ wsX60)
def wsX4_lowest : List Cond := .code yX4_lowest cX4_lowest 1 (some .int) :: ([.fieldLink RX4 15 "Commutator$Point" "convention" "I", .methodLink RX4 38 yX4_signWeight, .instanceMethod yX4_signWeight, .selects RX4 yX4_signWeight yX4_signWeight, .initialized RX4, .code yX4_signWeight cX4_signWeight 1 (some .int), .fieldLink RX4 9 "Commutator$Point" "width" "I"] ++ wsX40)
def wsX4_highest : List Cond := .code yX4_highest cX4_highest 1 (some .int) :: ([.fieldLink RX4 15 "Commutator$Point" "convention" "I", .fieldLink RX4 9 "Commutator$Point" "width" "I", .methodLink RX4 38 yX4_signWeight, .instanceMethod yX4_signWeight, .selects RX4 yX4_signWeight yX4_signWeight, .initialized RX4, .code yX4_signWeight cX4_signWeight 1 (some .int)] ++ wsX40)
def wsX4_encode : List Cond := .code yX4_encode cX4_encode 2 (some .int) :: ([.fieldLink RX4 15 "Commutator$Point" "convention" "I", .fieldLink RX4 9 "Commutator$Point" "width" "I", .methodLink RX4 38 yX4_signWeight, .instanceMethod yX4_signWeight, .selects RX4 yX4_signWeight yX4_signWeight, .initialized RX4, .code yX4_signWeight cX4_signWeight 1 (some .int)] ++ wsX40)
def wsX5_init : List Cond := .code yX5_init cX5_init 1 none :: ([.methodLink RX5 3 objectInit, .instanceMethod objectInit, .code objectInit ⟨#[0xb1]⟩ 1 none, .classLink RX5 9 RX4, .fieldLink RX5 11 "Commutator$PointTable" "rows" "[LCommutator$Point;", .arrayClass .long, .fieldLink RX5 17 "Commutator$PointTable" "usedBits" "[J"] ++ wsX50)
def wsX5_bitsAt : List Cond := .code yX5_bitsAt cX5_bitsAt 5 (some .long) :: ([])
def wsX5_isFree : List Cond := .code yX5_isFree cX5_isFree 6 (some .boolean) :: ([.fieldLink RX5 17 "Commutator$PointTable" "usedBits" "[J"] ++ wsX50)
def wsX5_use : List Cond := .code yX5_use cX5_use 6 none :: ([.fieldLink RX5 17 "Commutator$PointTable" "usedBits" "[J"] ++ wsX50)
def wsX5_add_r1 : List Cond := [Cond.fieldLink RX5 21 "Commutator$PointTable" "count" "I", Cond.fieldLink RX5 11 "Commutator$PointTable" "rows" "[LCommutator$Point;", Cond.classLink RX5 9 RX4, Cond.instantiable RX4 10, Cond.initialized RX4, Cond.methodLink RX5 25 yX5_bitsAt, Cond.static yX5_bitsAt, Cond.initialized RX5, Cond.code yX5_bitsAt cX5_bitsAt 5 (some .long), Cond.methodLink RX5 29 yX5_isFree, Cond.instanceMethod yX5_isFree, Cond.selects RX5 yX5_isFree yX5_isFree, Cond.code yX5_isFree cX5_isFree 6 (some .boolean), Cond.fieldLink RX5 17 "Commutator$PointTable" "usedBits" "[J", Cond.methodLink RX5 33 yX5_use, Cond.instanceMethod yX5_use, Cond.selects RX5 yX5_use yX5_use, Cond.code yX5_use cX5_use 6 none, Cond.methodLink RX5 37 yX4_init, Cond.instanceMethod yX4_init, Cond.code yX4_init cX4_init 7 none, Cond.methodLink RX4 3 objectInit, Cond.instanceMethod objectInit, Cond.code objectInit ⟨#[0xb1]⟩ 1 none]
def wsX5_add_r2 : List Cond := [Cond.fieldLink RX4 9 "Commutator$Point" "width" "I", Cond.fieldLink RX4 15 "Commutator$Point" "convention" "I", Cond.fieldLink RX4 18 "Commutator$Point" "period" "I", Cond.fieldLink RX4 21 "Commutator$Point" "twice" "Z", Cond.fieldLink RX4 25 "Commutator$Point" "phase" "I", Cond.fieldLink RX4 28 "Commutator$Point" "offset" "I", Cond.classLink RX4 31 RX6, Cond.instantiable RX6 3, Cond.initialized RX6, Cond.fieldLink RX4 34 "Commutator$Point" "latest" "LCommutator$Reading;", Cond.instanceMethod yX6_init, Cond.code yX6_init cX6_init 1 none, Cond.methodLink RX6 1 objectInit]
def wsX5_add : List Cond := .code yX5_add cX5_add 10 (some .boolean) :: ((wsX5_add_r1 ++ wsX5_add_r2) ++ wsX50 ++ wsX40 ++ wsX60)
def wsJ13_bitCount_95d88 : List Cond := .code yJ13_bitCount_95d88 cJ13_bitCount_95d88 2 (some .int) :: ([.constantLong RJ13 314 (6148914691236517205), .constantLong RJ13 316 (3689348814741910323), .constantLong RJ13 318 (1085102592571150095)])
def wsX5_spareBits : List Cond := .code yX5_spareBits cX5_spareBits 3 (some .int) :: ([.fieldLink RX5 17 "Commutator$PointTable" "usedBits" "[J", .methodLink RX5 40 yJ13_bitCount_95d88, .static yJ13_bitCount_95d88, .initialized RJ13, .code yJ13_bitCount_95d88 cJ13_bitCount_95d88 2 (some .int), .constantLong RJ13 314 (6148914691236517205), .constantLong RJ13 316 (3689348814741910323), .constantLong RJ13 318 (1085102592571150095)] ++ wsX50)
def wsX7_init : List Cond := .code yX7_init cX7_init 1 none :: ([.methodLink RX7 3 objectInit, .instanceMethod objectInit, .code objectInit ⟨#[0xb1]⟩ 1 none])
def wsX7_packSamples_r1 : List Cond := [Cond.fieldLink RX7 16 "Commutator$Sender" "frame" "J", Cond.methodLink RX7 35 yX5_at, Cond.instanceMethod yX5_at, Cond.selects RX5 yX5_at yX5_at, Cond.initialized RX5, Cond.code yX5_at cX5_at 2 (some (.object "Commutator$Point")), Cond.fieldLink RX5 21 "Commutator$PointTable" "count" "I", Cond.fieldLink RX5 11 "Commutator$PointTable" "rows" "[LCommutator$Point;", Cond.methodLink RX7 39 yX4_isSentIn, Cond.instanceMethod yX4_isSentIn, Cond.selects RX4 yX4_isSentIn yX4_isSentIn, Cond.initialized RX4, Cond.code yX4_isSentIn cX4_isSentIn 2 (some .boolean), Cond.fieldLink RX4 18 "Commutator$Point" "period" "I", Cond.fieldLink RX4 25 "Commutator$Point" "phase" "I", Cond.methodLink RX7 45 yX4_samplesInFrame, Cond.instanceMethod yX4_samplesInFrame, Cond.selects RX4 yX4_samplesInFrame yX4_samplesInFrame, Cond.code yX4_samplesInFrame cX4_samplesInFrame 1 (some .int), Cond.fieldLink RX4 21 "Commutator$Point" "twice" "Z", Cond.methodLink RX7 49 yX4_firstBit, Cond.instanceMethod yX4_firstBit, Cond.selects RX4 yX4_firstBit yX4_firstBit, Cond.code yX4_firstBit cX4_firstBit 2 (some .int)]
def wsX7_packSamples_r2 : List Cond := [Cond.fieldLink RX4 28 "Commutator$Point" "offset" "I", Cond.methodLink RX7 56 yX4_encode, Cond.instanceMethod yX4_encode, Cond.selects RX4 yX4_encode yX4_encode, Cond.code yX4_encode cX4_encode 2 (some .int), Cond.fieldLink RX4 15 "Commutator$Point" "convention" "I", Cond.fieldLink RX4 9 "Commutator$Point" "width" "I", Cond.methodLink RX4 38 yX4_signWeight, Cond.instanceMethod yX4_signWeight, Cond.selects RX4 yX4_signWeight yX4_signWeight, Cond.code yX4_signWeight cX4_signWeight 1 (some .int), Cond.methodLink RX7 59 yX4_shift, Cond.instanceMethod yX4_shift, Cond.selects RX4 yX4_shift yX4_shift, Cond.code yX4_shift cX4_shift 2 (some .int), Cond.methodLink RX4 42 yX4_firstBit]
def wsX7_packSamples : List Cond := .code yX7_packSamples cX7_packSamples 7 none :: ((wsX7_packSamples_r1 ++ wsX7_packSamples_r2) ++ wsX50 ++ wsX70 ++ wsX40)
def wsX7_sendWord_r1 : List Cond := [Cond.fieldLink RX7 9 "Commutator$Sender" "wordsSent" "I", Cond.constant RX7 15 (47104), Cond.fieldLink RX7 16 "Commutator$Sender" "frame" "J", Cond.methodLink RX7 20 yX7_packSamples, Cond.instanceMethod yX7_packSamples, Cond.selects RX7 yX7_packSamples yX7_packSamples, Cond.initialized RX7, Cond.code yX7_packSamples cX7_packSamples 7 none, Cond.methodLink RX7 35 yX5_at, Cond.instanceMethod yX5_at, Cond.selects RX5 yX5_at yX5_at, Cond.initialized RX5, Cond.code yX5_at cX5_at 2 (some (.object "Commutator$Point")), Cond.fieldLink RX5 21 "Commutator$PointTable" "count" "I", Cond.fieldLink RX5 11 "Commutator$PointTable" "rows" "[LCommutator$Point;", Cond.methodLink RX7 39 yX4_isSentIn, Cond.instanceMethod yX4_isSentIn, Cond.selects RX4 yX4_isSentIn yX4_isSentIn, Cond.initialized RX4, Cond.code yX4_isSentIn cX4_isSentIn 2 (some .boolean), Cond.fieldLink RX4 18 "Commutator$Point" "period" "I", Cond.fieldLink RX4 25 "Commutator$Point" "phase" "I", Cond.methodLink RX7 45 yX4_samplesInFrame, Cond.instanceMethod yX4_samplesInFrame]
def wsX7_sendWord_r2 : List Cond := [Cond.selects RX4 yX4_samplesInFrame yX4_samplesInFrame, Cond.code yX4_samplesInFrame cX4_samplesInFrame 1 (some .int), Cond.fieldLink RX4 21 "Commutator$Point" "twice" "Z", Cond.methodLink RX7 49 yX4_firstBit, Cond.instanceMethod yX4_firstBit, Cond.selects RX4 yX4_firstBit yX4_firstBit, Cond.code yX4_firstBit cX4_firstBit 2 (some .int), Cond.fieldLink RX4 28 "Commutator$Point" "offset" "I", Cond.methodLink RX7 56 yX4_encode, Cond.instanceMethod yX4_encode, Cond.selects RX4 yX4_encode yX4_encode, Cond.code yX4_encode cX4_encode 2 (some .int), Cond.fieldLink RX4 15 "Commutator$Point" "convention" "I", Cond.fieldLink RX4 9 "Commutator$Point" "width" "I", Cond.methodLink RX4 38 yX4_signWeight, Cond.instanceMethod yX4_signWeight, Cond.selects RX4 yX4_signWeight yX4_signWeight, Cond.code yX4_signWeight cX4_signWeight 1 (some .int), Cond.methodLink RX7 59 yX4_shift, Cond.instanceMethod yX4_shift, Cond.selects RX4 yX4_shift yX4_shift, Cond.code yX4_shift cX4_shift 2 (some .int), Cond.methodLink RX4 42 yX4_firstBit, Cond.methodLink RX7 24 yX3_append]
def wsX7_sendWord_r3 : List Cond := [Cond.instanceMethod yX3_append, Cond.selects RX3 yX3_append yX3_append, Cond.initialized RX3, Cond.code yX3_append cX3_append 2 none, Cond.fieldLink RX3 15 "Commutator$Line" "end" "I", Cond.fieldLink RX3 9 "Commutator$Line" "bits" "[I"]
def wsX7_sendWord : List Cond := .code yX7_sendWord cX7_sendWord 7 none :: ((wsX7_sendWord_r1 ++ (wsX7_sendWord_r2 ++ wsX7_sendWord_r3)) ++ wsX70 ++ wsX50 ++ wsX40 ++ wsX30)
def wsX8_init : List Cond := .code yX8_init cX8_init 1 none :: ([.methodLink RX8 3 objectInit, .instanceMethod objectInit, .code objectInit ⟨#[0xb1]⟩ 1 none, .fieldLink RX8 9 "Commutator$Synchroniser" "mode" "I", .arrayClass .int, .fieldLink RX8 15 "Commutator$Synchroniser" "syncWords" "[I"] ++ wsX80)
def wsX8_latestWord : List Cond := .code yX8_latestWord cX8_latestWord 1 (some .int) :: ([.fieldLink RX8 19 "Commutator$Synchroniser" "latest" "J"] ++ wsX80)
def wsX8_isSyncWord : List Cond := .code yX8_isSyncWord cX8_isSyncWord 1 (some .boolean) :: ([.methodLink RX8 39 yX8_latestWord, .instanceMethod yX8_latestWord, .selects RX8 yX8_latestWord yX8_latestWord, .initialized RX8, .code yX8_latestWord cX8_latestWord 1 (some .int), .fieldLink RX8 19 "Commutator$Synchroniser" "latest" "J"] ++ wsX80)
def wsX8_search : List Cond := .code yX8_search cX8_search 1 none :: ([.fieldLink RX8 9 "Commutator$Synchroniser" "mode" "I", .fieldLink RX8 43 "Commutator$Synchroniser" "matchCount" "I", .fieldLink RX8 33 "Commutator$Synchroniser" "bitsOfFrame" "I", .methodLink RX8 26 yX8_isSyncWord, .instanceMethod yX8_isSyncWord, .selects RX8 yX8_isSyncWord yX8_isSyncWord, .initialized RX8, .code yX8_isSyncWord cX8_isSyncWord 1 (some .boolean), .methodLink RX8 39 yX8_latestWord, .instanceMethod yX8_latestWord, .selects RX8 yX8_latestWord yX8_latestWord, .code yX8_latestWord cX8_latestWord 1 (some .int), .fieldLink RX8 19 "Commutator$Synchroniser" "latest" "J"] ++ wsX80)
def wsX8_check : List Cond := .code yX8_check cX8_check 1 none :: ([.fieldLink RX8 9 "Commutator$Synchroniser" "mode" "I", .fieldLink RX8 43 "Commutator$Synchroniser" "matchCount" "I", .fieldLink RX8 52 "Commutator$Synchroniser" "missCount" "I", .methodLink RX8 26 yX8_isSyncWord, .instanceMethod yX8_isSyncWord, .selects RX8 yX8_isSyncWord yX8_isSyncWord, .initialized RX8, .code yX8_isSyncWord cX8_isSyncWord 1 (some .boolean), .methodLink RX8 39 yX8_latestWord, .instanceMethod yX8_latestWord, .selects RX8 yX8_latestWord yX8_latestWord, .code yX8_latestWord cX8_latestWord 1 (some .int), .fieldLink RX8 19 "Commutator$Synchroniser" "latest" "J"] ++ wsX80)
def wsJ6_bitCount_0f7a4 : List Cond := .code yJ6_bitCount_0f7a4 cJ6_bitCount_0f7a4 1 (some .int) :: ([.constant RJ6 265 (1431655765), .constant RJ6 266 (858993459), .constant RJ6 267 (252645135)])
def wsX8_keepLock : List Cond := .code yX8_keepLock cX8_keepLock 1 none :: ([.fieldLink RX8 52 "Commutator$Synchroniser" "missCount" "I", .fieldLink RX8 9 "Commutator$Synchroniser" "mode" "I", .methodLink RX8 39 yX8_latestWord, .instanceMethod yX8_latestWord, .selects RX8 yX8_latestWord yX8_latestWord, .initialized RX8, .code yX8_latestWord cX8_latestWord 1 (some .int), .fieldLink RX8 19 "Commutator$Synchroniser" "latest" "J", .methodLink RX8 55 yJ6_bitCount_0f7a4, .static yJ6_bitCount_0f7a4, .initialized RJ6, .code yJ6_bitCount_0f7a4 cJ6_bitCount_0f7a4 1 (some .int), .constant RJ6 265 (1431655765), .constant RJ6 266 (858993459), .constant RJ6 267 (252645135)] ++ wsX80)
def wsX8_judgeSyncWord_r1 : List Cond := [Cond.fieldLink RX8 9 "Commutator$Synchroniser" "mode" "I", Cond.methodLink RX8 46 yX8_check, Cond.instanceMethod yX8_check, Cond.selects RX8 yX8_check yX8_check, Cond.initialized RX8, Cond.code yX8_check cX8_check 1 none, Cond.fieldLink RX8 43 "Commutator$Synchroniser" "matchCount" "I", Cond.fieldLink RX8 52 "Commutator$Synchroniser" "missCount" "I", Cond.methodLink RX8 26 yX8_isSyncWord, Cond.instanceMethod yX8_isSyncWord, Cond.selects RX8 yX8_isSyncWord yX8_isSyncWord, Cond.code yX8_isSyncWord cX8_isSyncWord 1 (some .boolean), Cond.methodLink RX8 39 yX8_latestWord, Cond.instanceMethod yX8_latestWord, Cond.selects RX8 yX8_latestWord yX8_latestWord, Cond.code yX8_latestWord cX8_latestWord 1 (some .int), Cond.fieldLink RX8 19 "Commutator$Synchroniser" "latest" "J", Cond.methodLink RX8 49 yX8_keepLock, Cond.instanceMethod yX8_keepLock, Cond.selects RX8 yX8_keepLock yX8_keepLock, Cond.code yX8_keepLock cX8_keepLock 1 none, Cond.methodLink RX8 55 yJ6_bitCount_0f7a4, Cond.static yJ6_bitCount_0f7a4, Cond.initialized RJ6]
def wsX8_judgeSyncWord_r2 : List Cond := [Cond.code yJ6_bitCount_0f7a4 cJ6_bitCount_0f7a4 1 (some .int), Cond.constant RJ6 265 (1431655765), Cond.constant RJ6 266 (858993459), Cond.constant RJ6 267 (252645135)]
def wsX8_judgeSyncWord : List Cond := .code yX8_judgeSyncWord cX8_judgeSyncWord 1 none :: ((wsX8_judgeSyncWord_r1 ++ wsX8_judgeSyncWord_r2) ++ wsX80)
def wsX8_take_r1 : List Cond := [Cond.fieldLink RX8 19 "Commutator$Synchroniser" "latest" "J", Cond.fieldLink RX8 23 "Commutator$Synchroniser" "takenBits" "I", Cond.fieldLink RX8 15 "Commutator$Synchroniser" "syncWords" "[I", Cond.fieldLink RX8 9 "Commutator$Synchroniser" "mode" "I", Cond.fieldLink RX8 33 "Commutator$Synchroniser" "bitsOfFrame" "I", Cond.methodLink RX8 26 yX8_isSyncWord, Cond.instanceMethod yX8_isSyncWord, Cond.selects RX8 yX8_isSyncWord yX8_isSyncWord, Cond.initialized RX8, Cond.code yX8_isSyncWord cX8_isSyncWord 1 (some .boolean), Cond.methodLink RX8 39 yX8_latestWord, Cond.instanceMethod yX8_latestWord, Cond.selects RX8 yX8_latestWord yX8_latestWord, Cond.code yX8_latestWord cX8_latestWord 1 (some .int), Cond.methodLink RX8 30 yX8_search, Cond.instanceMethod yX8_search, Cond.selects RX8 yX8_search yX8_search, Cond.code yX8_search cX8_search 1 none, Cond.fieldLink RX8 43 "Commutator$Synchroniser" "matchCount" "I", Cond.methodLink RX8 36 yX8_judgeSyncWord, Cond.instanceMethod yX8_judgeSyncWord, Cond.selects RX8 yX8_judgeSyncWord yX8_judgeSyncWord, Cond.code yX8_judgeSyncWord cX8_judgeSyncWord 1 none, Cond.methodLink RX8 46 yX8_check]
def wsX8_take_r2 : List Cond := [Cond.instanceMethod yX8_check, Cond.selects RX8 yX8_check yX8_check, Cond.code yX8_check cX8_check 1 none, Cond.fieldLink RX8 52 "Commutator$Synchroniser" "missCount" "I", Cond.methodLink RX8 49 yX8_keepLock, Cond.instanceMethod yX8_keepLock, Cond.selects RX8 yX8_keepLock yX8_keepLock, Cond.code yX8_keepLock cX8_keepLock 1 none, Cond.methodLink RX8 55 yJ6_bitCount_0f7a4, Cond.static yJ6_bitCount_0f7a4, Cond.initialized RJ6, Cond.code yJ6_bitCount_0f7a4 cJ6_bitCount_0f7a4 1 (some .int), Cond.constant RJ6 265 (1431655765), Cond.constant RJ6 266 (858993459), Cond.constant RJ6 267 (252645135)]
def wsX8_take : List Cond := .code yX8_take cX8_take 2 (some .boolean) :: ((wsX8_take_r1 ++ wsX8_take_r2) ++ wsX80)
def wsX8_syncWordsAt : List Cond := .code yX8_syncWordsAt cX8_syncWordsAt 2 (some .int) :: ([.fieldLink RX8 15 "Commutator$Synchroniser" "syncWords" "[I"] ++ wsX80)
def wsX9_init_r1 : List Cond := [Cond.methodLink RX9 1 objectInit, Cond.instanceMethod objectInit, Cond.code objectInit ⟨#[0xb1]⟩ 1 none, Cond.classLink RX9 7 RX5, Cond.instantiable RX5 3, Cond.initialized RX5, Cond.fieldLink RX9 10 "Commutator" "table" "LCommutator$PointTable;", Cond.classLink RX9 16 RX3, Cond.instantiable RX3 3, Cond.initialized RX3, Cond.fieldLink RX9 19 "Commutator" "line" "LCommutator$Line;", Cond.classLink RX9 23 RX7, Cond.instantiable RX7 2, Cond.initialized RX7, Cond.fieldLink RX9 26 "Commutator" "sender" "LCommutator$Sender;", Cond.classLink RX9 30 RX8, Cond.instantiable RX8 7, Cond.initialized RX8, Cond.fieldLink RX9 33 "Commutator" "synchroniser" "LCommutator$Synchroniser;", Cond.classLink RX9 37 RX0, Cond.instantiable RX0 5, Cond.initialized RX0, Cond.fieldLink RX9 40 "Commutator" "decoder" "LCommutator$Decoder;", Cond.classLink RX9 44 RX2]
def wsX9_init_r2 : List Cond := [Cond.instantiable RX2 1, Cond.initialized RX2, Cond.fieldLink RX9 47 "Commutator" "derivedTable" "LCommutator$DerivedTable;", Cond.instanceMethod yX5_init, Cond.code yX5_init cX5_init 1 none, Cond.methodLink RX5 3 objectInit, Cond.classLink RX5 9 RX4, Cond.fieldLink RX5 11 "Commutator$PointTable" "rows" "[LCommutator$Point;", Cond.arrayClass .long, Cond.fieldLink RX5 17 "Commutator$PointTable" "usedBits" "[J", Cond.instanceMethod yX3_init, Cond.code yX3_init cX3_init 1 none, Cond.methodLink RX3 3 objectInit, Cond.arrayClass .int, Cond.fieldLink RX3 9 "Commutator$Line" "bits" "[I", Cond.instanceMethod yX7_init, Cond.code yX7_init cX7_init 1 none, Cond.methodLink RX7 3 objectInit, Cond.instanceMethod yX8_init, Cond.code yX8_init cX8_init 1 none, Cond.methodLink RX8 3 objectInit, Cond.fieldLink RX8 9 "Commutator$Synchroniser" "mode" "I", Cond.fieldLink RX8 15 "Commutator$Synchroniser" "syncWords" "[I", Cond.instanceMethod yX0_init]
def wsX9_init_r3 : List Cond := [Cond.code yX0_init cX0_init 1 none, Cond.methodLink RX0 3 objectInit, Cond.methodLink RX9 46 yX2_init, Cond.instanceMethod yX2_init, Cond.code yX2_init cX2_init 2 none, Cond.methodLink RX2 3 objectInit, Cond.classLink RX2 9 RX1, Cond.fieldLink RX2 11 "Commutator$DerivedTable" "rows" "[LCommutator$Derived;", Cond.instantiable RX1 5, Cond.initialized RX1, Cond.instanceMethod yX1_init, Cond.code yX1_init cX1_init 1 none, Cond.methodLink RX1 1 objectInit, Cond.classLink RX1 7 RX6, Cond.instantiable RX6 3, Cond.initialized RX6, Cond.fieldLink RX1 10 "Commutator$Derived" "result" "LCommutator$Reading;", Cond.instanceMethod yX6_init, Cond.code yX6_init cX6_init 1 none, Cond.methodLink RX6 1 objectInit]
def wsX9_init : List Cond := .code yX9_init cX9_init 1 none :: ((wsX9_init_r1 ++ (wsX9_init_r2 ++ wsX9_init_r3)) ++ wsX50 ++ wsX90 ++ wsX30 ++ wsX70 ++ wsX80 ++ wsX00 ++ wsX20 ++ wsX10 ++ wsX60)
def wsX9_isPointAllowed : List Cond := .code yX9_isPointAllowed cX9_isPointAllowed 5 (some .boolean) :: ([])
def wsX9_addPoint_r1 : List Cond := [Cond.classLink RX9 55 "java/lang/IllegalArgumentException", Cond.initialized "java/lang/IllegalArgumentException", Cond.classLink RX9 65 "java/lang/IllegalStateException", Cond.initialized "java/lang/IllegalStateException", Cond.fieldLink RX9 26 "Commutator" "sender" "LCommutator$Sender;", Cond.fieldLink RX9 10 "Commutator" "table" "LCommutator$PointTable;", Cond.methodLink RX9 51 yX9_isPointAllowed, Cond.static yX9_isPointAllowed, Cond.initialized RX9, Cond.code yX9_isPointAllowed cX9_isPointAllowed 5 (some .boolean), Cond.methodLink RX9 62 yX5_add, Cond.instanceMethod yX5_add, Cond.selects RX5 yX5_add yX5_add, Cond.initialized RX5, Cond.code yX5_add cX5_add 10 (some .boolean), Cond.fieldLink RX5 21 "Commutator$PointTable" "count" "I", Cond.fieldLink RX5 11 "Commutator$PointTable" "rows" "[LCommutator$Point;", Cond.classLink RX5 9 RX4, Cond.instantiable RX4 10, Cond.initialized RX4, Cond.methodLink RX5 25 yX5_bitsAt, Cond.static yX5_bitsAt, Cond.code yX5_bitsAt cX5_bitsAt 5 (some .long), Cond.methodLink RX5 29 yX5_isFree]
def wsX9_addPoint_r2 : List Cond := [Cond.instanceMethod yX5_isFree, Cond.selects RX5 yX5_isFree yX5_isFree, Cond.code yX5_isFree cX5_isFree 6 (some .boolean), Cond.fieldLink RX5 17 "Commutator$PointTable" "usedBits" "[J", Cond.methodLink RX5 33 yX5_use, Cond.instanceMethod yX5_use, Cond.selects RX5 yX5_use yX5_use, Cond.code yX5_use cX5_use 6 none, Cond.methodLink RX5 37 yX4_init, Cond.instanceMethod yX4_init, Cond.code yX4_init cX4_init 7 none, Cond.methodLink RX4 3 objectInit, Cond.instanceMethod objectInit, Cond.code objectInit ⟨#[0xb1]⟩ 1 none, Cond.fieldLink RX4 9 "Commutator$Point" "width" "I", Cond.fieldLink RX4 15 "Commutator$Point" "convention" "I", Cond.fieldLink RX4 18 "Commutator$Point" "period" "I", Cond.fieldLink RX4 21 "Commutator$Point" "twice" "Z", Cond.fieldLink RX4 25 "Commutator$Point" "phase" "I", Cond.fieldLink RX4 28 "Commutator$Point" "offset" "I", Cond.classLink RX4 31 RX6, Cond.instantiable RX6 3, Cond.initialized RX6, Cond.fieldLink RX4 34 "Commutator$Point" "latest" "LCommutator$Reading;"]
def wsX9_addPoint_r3 : List Cond := [Cond.instanceMethod yX6_init, Cond.code yX6_init cX6_init 1 none, Cond.methodLink RX6 1 objectInit]
def wsX9_addPoint : List Cond := .code yX9_addPoint cX9_addPoint 5 (some .int) :: ((wsX9_addPoint_r1 ++ (wsX9_addPoint_r2 ++ wsX9_addPoint_r3)) ++ wsX90 ++ wsX70 ++ wsX50 ++ wsX40 ++ wsX60 ++ (vx_at0 RX9 57 "java/lang/IllegalArgumentException" ["java/lang/RuntimeException", "java/lang/Exception"]).filter goodWord ++ (vx_at0 RX9 67 "java/lang/IllegalStateException" ["java/lang/RuntimeException", "java/lang/Exception"]).filter goodWord)
def wsX9_points : List Cond := .code yX9_points cX9_points 1 (some .int) :: ([.fieldLink RX9 10 "Commutator" "table" "LCommutator$PointTable;"] ++ wsX90 ++ wsX50)
def wsX9_existingPoint : List Cond := .code yX9_existingPoint cX9_existingPoint 3 (some (.object "Commutator$Point")) :: ([.classLink RX9 107 "java/lang/IndexOutOfBoundsException", .initialized "java/lang/IndexOutOfBoundsException", .fieldLink RX9 10 "Commutator" "table" "LCommutator$PointTable;", .methodLink RX9 202 yX5_at, .instanceMethod yX5_at, .selects RX5 yX5_at yX5_at, .initialized RX5, .code yX5_at cX5_at 2 (some (.object "Commutator$Point")), .fieldLink RX5 21 "Commutator$PointTable" "count" "I", .fieldLink RX5 11 "Commutator$PointTable" "rows" "[LCommutator$Point;"] ++ wsX90 ++ wsX50 ++ (vx_at0 RX9 109 "java/lang/IndexOutOfBoundsException" ["java/lang/RuntimeException", "java/lang/Exception"]).filter goodWord)
def wsX9_place : List Cond := .code yX9_place cX9_place 3 (some .int) :: ([.methodLink RX9 71 yX9_existingPoint, .instanceMethod yX9_existingPoint, .selects RX9 yX9_existingPoint yX9_existingPoint, .initialized RX9, .code yX9_existingPoint cX9_existingPoint 3 (some (.object "Commutator$Point")), .classLink RX9 107 "java/lang/IndexOutOfBoundsException", .initialized "java/lang/IndexOutOfBoundsException", .fieldLink RX9 10 "Commutator" "table" "LCommutator$PointTable;", .methodLink RX9 202 yX5_at, .instanceMethod yX5_at, .selects RX5 yX5_at yX5_at, .initialized RX5, .code yX5_at cX5_at 2 (some (.object "Commutator$Point")), .fieldLink RX5 21 "Commutator$PointTable" "count" "I", .fieldLink RX5 11 "Commutator$PointTable" "rows" "[LCommutator$Point;"] ++ wsX40 ++ wsX90 ++ wsX50 ++ (vx_at0 RX9 109 "java/lang/IndexOutOfBoundsException" ["java/lang/RuntimeException", "java/lang/Exception"]).filter goodWord)
def wsX9_spare : List Cond := .code yX9_spare cX9_spare 1 (some .int) :: ([.fieldLink RX9 10 "Commutator" "table" "LCommutator$PointTable;", .methodLink RX9 83 yX5_spareBits, .instanceMethod yX5_spareBits, .selects RX5 yX5_spareBits yX5_spareBits, .initialized RX5, .code yX5_spareBits cX5_spareBits 3 (some .int), .fieldLink RX5 17 "Commutator$PointTable" "usedBits" "[J", .methodLink RX5 40 yJ13_bitCount_95d88, .static yJ13_bitCount_95d88, .initialized RJ13, .code yJ13_bitCount_95d88 cJ13_bitCount_95d88 2 (some .int), .constantLong RJ13 314 (6148914691236517205), .constantLong RJ13 316 (3689348814741910323), .constantLong RJ13 318 (1085102592571150095)] ++ wsX90 ++ wsX50)
def wsX9_put_r1 : List Cond := [Cond.classLink RX9 55 "java/lang/IllegalArgumentException", Cond.initialized "java/lang/IllegalArgumentException", Cond.methodLink RX9 71 yX9_existingPoint, Cond.instanceMethod yX9_existingPoint, Cond.selects RX9 yX9_existingPoint yX9_existingPoint, Cond.initialized RX9, Cond.code yX9_existingPoint cX9_existingPoint 3 (some (.object "Commutator$Point")), Cond.classLink RX9 107 "java/lang/IndexOutOfBoundsException", Cond.initialized "java/lang/IndexOutOfBoundsException", Cond.fieldLink RX9 10 "Commutator" "table" "LCommutator$PointTable;", Cond.methodLink RX9 202 yX5_at, Cond.instanceMethod yX5_at, Cond.selects RX5 yX5_at yX5_at, Cond.initialized RX5, Cond.code yX5_at cX5_at 2 (some (.object "Commutator$Point")), Cond.fieldLink RX5 21 "Commutator$PointTable" "count" "I", Cond.fieldLink RX5 11 "Commutator$PointTable" "rows" "[LCommutator$Point;", Cond.methodLink RX9 87 yX4_lowest, Cond.instanceMethod yX4_lowest, Cond.selects RX4 yX4_lowest yX4_lowest, Cond.initialized RX4, Cond.code yX4_lowest cX4_lowest 1 (some .int), Cond.fieldLink RX4 15 "Commutator$Point" "convention" "I", Cond.methodLink RX4 38 yX4_signWeight]
def wsX9_put_r2 : List Cond := [Cond.instanceMethod yX4_signWeight, Cond.selects RX4 yX4_signWeight yX4_signWeight, Cond.code yX4_signWeight cX4_signWeight 1 (some .int), Cond.fieldLink RX4 9 "Commutator$Point" "width" "I", Cond.methodLink RX9 90 yX4_highest, Cond.instanceMethod yX4_highest, Cond.selects RX4 yX4_highest yX4_highest, Cond.code yX4_highest cX4_highest 1 (some .int)]
def wsX9_put : List Cond := .code yX9_put cX9_put 5 (some .int) :: ((wsX9_put_r1 ++ wsX9_put_r2) ++ wsX40 ++ wsX90 ++ wsX50 ++ (vx_at0 RX9 57 "java/lang/IllegalArgumentException" ["java/lang/RuntimeException", "java/lang/Exception"]).filter goodWord ++ (vx_at0 RX9 109 "java/lang/IndexOutOfBoundsException" ["java/lang/RuntimeException", "java/lang/Exception"]).filter goodWord)
def wsX9_send_r1 : List Cond := [Cond.classLink RX9 55 "java/lang/IllegalArgumentException", Cond.initialized "java/lang/IllegalArgumentException", Cond.classLink RX9 65 "java/lang/IllegalStateException", Cond.initialized "java/lang/IllegalStateException", Cond.fieldLink RX9 26 "Commutator" "sender" "LCommutator$Sender;", Cond.fieldLink RX9 10 "Commutator" "table" "LCommutator$PointTable;", Cond.fieldLink RX9 19 "Commutator" "line" "LCommutator$Line;", Cond.methodLink RX9 96 yX7_sendWord, Cond.instanceMethod yX7_sendWord, Cond.selects RX7 yX7_sendWord yX7_sendWord, Cond.initialized RX7, Cond.code yX7_sendWord cX7_sendWord 7 none, Cond.fieldLink RX7 9 "Commutator$Sender" "wordsSent" "I", Cond.constant RX7 15 (47104), Cond.fieldLink RX7 16 "Commutator$Sender" "frame" "J", Cond.methodLink RX7 20 yX7_packSamples, Cond.instanceMethod yX7_packSamples, Cond.selects RX7 yX7_packSamples yX7_packSamples, Cond.code yX7_packSamples cX7_packSamples 7 none, Cond.methodLink RX7 35 yX5_at, Cond.instanceMethod yX5_at, Cond.selects RX5 yX5_at yX5_at, Cond.initialized RX5, Cond.code yX5_at cX5_at 2 (some (.object "Commutator$Point"))]
def wsX9_send_r2 : List Cond := [Cond.fieldLink RX5 21 "Commutator$PointTable" "count" "I", Cond.fieldLink RX5 11 "Commutator$PointTable" "rows" "[LCommutator$Point;", Cond.methodLink RX7 39 yX4_isSentIn, Cond.instanceMethod yX4_isSentIn, Cond.selects RX4 yX4_isSentIn yX4_isSentIn, Cond.initialized RX4, Cond.code yX4_isSentIn cX4_isSentIn 2 (some .boolean), Cond.fieldLink RX4 18 "Commutator$Point" "period" "I", Cond.fieldLink RX4 25 "Commutator$Point" "phase" "I", Cond.methodLink RX7 45 yX4_samplesInFrame, Cond.instanceMethod yX4_samplesInFrame, Cond.selects RX4 yX4_samplesInFrame yX4_samplesInFrame, Cond.code yX4_samplesInFrame cX4_samplesInFrame 1 (some .int), Cond.fieldLink RX4 21 "Commutator$Point" "twice" "Z", Cond.methodLink RX7 49 yX4_firstBit, Cond.instanceMethod yX4_firstBit, Cond.selects RX4 yX4_firstBit yX4_firstBit, Cond.code yX4_firstBit cX4_firstBit 2 (some .int), Cond.fieldLink RX4 28 "Commutator$Point" "offset" "I", Cond.methodLink RX7 56 yX4_encode, Cond.instanceMethod yX4_encode, Cond.selects RX4 yX4_encode yX4_encode, Cond.code yX4_encode cX4_encode 2 (some .int), Cond.fieldLink RX4 15 "Commutator$Point" "convention" "I"]
def wsX9_send_r3 : List Cond := [Cond.fieldLink RX4 9 "Commutator$Point" "width" "I", Cond.methodLink RX4 38 yX4_signWeight, Cond.instanceMethod yX4_signWeight, Cond.selects RX4 yX4_signWeight yX4_signWeight, Cond.code yX4_signWeight cX4_signWeight 1 (some .int), Cond.methodLink RX7 59 yX4_shift, Cond.instanceMethod yX4_shift, Cond.selects RX4 yX4_shift yX4_shift, Cond.code yX4_shift cX4_shift 2 (some .int), Cond.methodLink RX4 42 yX4_firstBit, Cond.methodLink RX7 24 yX3_append, Cond.instanceMethod yX3_append, Cond.selects RX3 yX3_append yX3_append, Cond.initialized RX3, Cond.code yX3_append cX3_append 2 none, Cond.fieldLink RX3 15 "Commutator$Line" "end" "I", Cond.fieldLink RX3 9 "Commutator$Line" "bits" "[I", Cond.methodLink RX9 100 yX3_length, Cond.instanceMethod yX3_length, Cond.selects RX3 yX3_length yX3_length, Cond.code yX3_length cX3_length 1 (some .int), Cond.fieldLink RX3 19 "Commutator$Line" "head" "I"]
def wsX9_send : List Cond := .code yX9_send cX9_send 3 (some .int) :: ((wsX9_send_r1 ++ (wsX9_send_r2 ++ wsX9_send_r3)) ++ wsX90 ++ wsX70 ++ wsX50 ++ wsX40 ++ wsX30 ++ (vx_at0 RX9 57 "java/lang/IllegalArgumentException" ["java/lang/RuntimeException", "java/lang/Exception"]).filter goodWord ++ (vx_at0 RX9 67 "java/lang/IllegalStateException" ["java/lang/RuntimeException", "java/lang/Exception"]).filter goodWord)
def wsX9_sent : List Cond := .code yX9_sent cX9_sent 1 (some .int) :: ([.fieldLink RX9 26 "Commutator" "sender" "LCommutator$Sender;"] ++ wsX90 ++ wsX70)
def wsX9_onLine : List Cond := .code yX9_onLine cX9_onLine 1 (some .int) :: ([.fieldLink RX9 19 "Commutator" "line" "LCommutator$Line;", .methodLink RX9 100 yX3_length, .instanceMethod yX3_length, .selects RX3 yX3_length yX3_length, .initialized RX3, .code yX3_length cX3_length 1 (some .int), .fieldLink RX3 15 "Commutator$Line" "end" "I", .fieldLink RX3 19 "Commutator$Line" "head" "I"] ++ wsX90 ++ wsX30)
def wsX9_bit : List Cond := .code yX9_bit cX9_bit 2 (some .int) :: ([.classLink RX9 107 "java/lang/IndexOutOfBoundsException", .initialized "java/lang/IndexOutOfBoundsException", .fieldLink RX9 19 "Commutator" "line" "LCommutator$Line;", .methodLink RX9 103 yX3_holds, .instanceMethod yX3_holds, .selects RX3 yX3_holds yX3_holds, .initialized RX3, .code yX3_holds cX3_holds 3 (some .boolean), .methodLink RX3 22 yX3_length, .instanceMethod yX3_length, .selects RX3 yX3_length yX3_length, .code yX3_length cX3_length 1 (some .int), .fieldLink RX3 15 "Commutator$Line" "end" "I", .fieldLink RX3 19 "Commutator$Line" "head" "I", .methodLink RX9 110 yX3_look, .instanceMethod yX3_look, .selects RX3 yX3_look yX3_look, .code yX3_look cX3_look 2 (some .int), .fieldLink RX3 9 "Commutator$Line" "bits" "[I", .methodLink RX3 26 yX3_holds] ++ wsX90 ++ wsX30 ++ (vx_at0 RX9 109 "java/lang/IndexOutOfBoundsException" ["java/lang/RuntimeException", "java/lang/Exception"]).filter goodWord)
def wsX9_flip : List Cond := .code yX9_flip cX9_flip 2 (some .int) :: ([.classLink RX9 107 "java/lang/IndexOutOfBoundsException", .initialized "java/lang/IndexOutOfBoundsException", .fieldLink RX9 19 "Commutator" "line" "LCommutator$Line;", .methodLink RX9 103 yX3_holds, .instanceMethod yX3_holds, .selects RX3 yX3_holds yX3_holds, .initialized RX3, .code yX3_holds cX3_holds 3 (some .boolean), .methodLink RX3 22 yX3_length, .instanceMethod yX3_length, .selects RX3 yX3_length yX3_length, .code yX3_length cX3_length 1 (some .int), .fieldLink RX3 15 "Commutator$Line" "end" "I", .fieldLink RX3 19 "Commutator$Line" "head" "I", .methodLink RX9 114 yX3_turnOver, .instanceMethod yX3_turnOver, .selects RX3 yX3_turnOver yX3_turnOver, .code yX3_turnOver cX3_turnOver 2 (some .int), .fieldLink RX3 9 "Commutator$Line" "bits" "[I", .methodLink RX3 26 yX3_holds] ++ wsX90 ++ wsX30 ++ (vx_at0 RX9 109 "java/lang/IndexOutOfBoundsException" ["java/lang/RuntimeException", "java/lang/Exception"]).filter goodWord)
def wsX9_cut_r1 : List Cond := [Cond.classLink RX9 55 "java/lang/IllegalArgumentException", Cond.initialized "java/lang/IllegalArgumentException", Cond.classLink RX9 107 "java/lang/IndexOutOfBoundsException", Cond.initialized "java/lang/IndexOutOfBoundsException", Cond.fieldLink RX9 19 "Commutator" "line" "LCommutator$Line;", Cond.methodLink RX9 103 yX3_holds, Cond.instanceMethod yX3_holds, Cond.selects RX3 yX3_holds yX3_holds, Cond.initialized RX3, Cond.code yX3_holds cX3_holds 3 (some .boolean), Cond.methodLink RX3 22 yX3_length, Cond.instanceMethod yX3_length, Cond.selects RX3 yX3_length yX3_length, Cond.code yX3_length cX3_length 1 (some .int), Cond.fieldLink RX3 15 "Commutator$Line" "end" "I", Cond.fieldLink RX3 19 "Commutator$Line" "head" "I", Cond.methodLink RX9 117 yX3_remove, Cond.instanceMethod yX3_remove, Cond.selects RX3 yX3_remove yX3_remove, Cond.code yX3_remove cX3_remove 4 none, Cond.fieldLink RX3 9 "Commutator$Line" "bits" "[I", Cond.methodLink RX3 30 arraycopyName, Cond.native arraycopyName, Cond.static arraycopyName]
def wsX9_cut_r2 : List Cond := [Cond.initialized "java/lang/System", Cond.methodLink RX3 26 yX3_holds, Cond.methodLink RX9 100 yX3_length]
def wsX9_cut : List Cond := .code yX9_cut cX9_cut 3 (some .int) :: ((wsX9_cut_r1 ++ wsX9_cut_r2) ++ wsX90 ++ wsX30 ++ (vx_at0 RX9 57 "java/lang/IllegalArgumentException" ["java/lang/RuntimeException", "java/lang/Exception"]).filter goodWord ++ (vx_at0 RX9 109 "java/lang/IndexOutOfBoundsException" ["java/lang/RuntimeException", "java/lang/Exception"]).filter goodWord)
def wsX9_receive_r1 : List Cond := [Cond.classLink RX9 55 "java/lang/IllegalArgumentException", Cond.initialized "java/lang/IllegalArgumentException", Cond.fieldLink RX9 40 "Commutator" "decoder" "LCommutator$Decoder;", Cond.fieldLink RX9 19 "Commutator" "line" "LCommutator$Line;", Cond.methodLink RX9 124 Lib.Math.min.name, Cond.static Lib.Math.min.name, Cond.initialized "java/lang/Math", Cond.code Lib.Math.min.name Lib.Math.min.code 2 (some .int), Cond.fieldLink RX9 33 "Commutator" "synchroniser" "LCommutator$Synchroniser;", Cond.fieldLink RX9 10 "Commutator" "table" "LCommutator$PointTable;", Cond.methodLink RX9 100 yX3_length, Cond.instanceMethod yX3_length, Cond.selects RX3 yX3_length yX3_length, Cond.initialized RX3, Cond.code yX3_length cX3_length 1 (some .int), Cond.fieldLink RX3 15 "Commutator$Line" "end" "I", Cond.fieldLink RX3 19 "Commutator$Line" "head" "I", Cond.methodLink RX9 130 yX3_takeFirst, Cond.instanceMethod yX3_takeFirst, Cond.selects RX3 yX3_takeFirst yX3_takeFirst, Cond.code yX3_takeFirst cX3_takeFirst 2 (some .int), Cond.fieldLink RX3 9 "Commutator$Line" "bits" "[I", Cond.methodLink RX3 26 yX3_holds, Cond.instanceMethod yX3_holds]
def wsX9_receive_r2 : List Cond := [Cond.selects RX3 yX3_holds yX3_holds, Cond.code yX3_holds cX3_holds 3 (some .boolean), Cond.methodLink RX3 22 yX3_length, Cond.methodLink RX9 133 yX8_take, Cond.instanceMethod yX8_take, Cond.selects RX8 yX8_take yX8_take, Cond.initialized RX8, Cond.code yX8_take cX8_take 2 (some .boolean), Cond.fieldLink RX8 19 "Commutator$Synchroniser" "latest" "J", Cond.fieldLink RX8 23 "Commutator$Synchroniser" "takenBits" "I", Cond.fieldLink RX8 15 "Commutator$Synchroniser" "syncWords" "[I", Cond.fieldLink RX8 9 "Commutator$Synchroniser" "mode" "I", Cond.fieldLink RX8 33 "Commutator$Synchroniser" "bitsOfFrame" "I", Cond.methodLink RX8 26 yX8_isSyncWord, Cond.instanceMethod yX8_isSyncWord, Cond.selects RX8 yX8_isSyncWord yX8_isSyncWord, Cond.code yX8_isSyncWord cX8_isSyncWord 1 (some .boolean), Cond.methodLink RX8 39 yX8_latestWord, Cond.instanceMethod yX8_latestWord, Cond.selects RX8 yX8_latestWord yX8_latestWord, Cond.code yX8_latestWord cX8_latestWord 1 (some .int), Cond.methodLink RX8 30 yX8_search, Cond.instanceMethod yX8_search, Cond.selects RX8 yX8_search yX8_search]
def wsX9_receive_r3 : List Cond := [Cond.code yX8_search cX8_search 1 none, Cond.fieldLink RX8 43 "Commutator$Synchroniser" "matchCount" "I", Cond.methodLink RX8 36 yX8_judgeSyncWord, Cond.instanceMethod yX8_judgeSyncWord, Cond.selects RX8 yX8_judgeSyncWord yX8_judgeSyncWord, Cond.code yX8_judgeSyncWord cX8_judgeSyncWord 1 none, Cond.methodLink RX8 46 yX8_check, Cond.instanceMethod yX8_check, Cond.selects RX8 yX8_check yX8_check, Cond.code yX8_check cX8_check 1 none, Cond.fieldLink RX8 52 "Commutator$Synchroniser" "missCount" "I", Cond.methodLink RX8 49 yX8_keepLock, Cond.instanceMethod yX8_keepLock, Cond.selects RX8 yX8_keepLock yX8_keepLock, Cond.code yX8_keepLock cX8_keepLock 1 none, Cond.methodLink RX8 55 yJ6_bitCount_0f7a4, Cond.static yJ6_bitCount_0f7a4, Cond.initialized RJ6, Cond.code yJ6_bitCount_0f7a4 cJ6_bitCount_0f7a4 1 (some .int), Cond.constant RJ6 265 (1431655765), Cond.constant RJ6 266 (858993459), Cond.constant RJ6 267 (252645135), Cond.methodLink RX9 141 yX0_decode, Cond.instanceMethod yX0_decode]
def wsX9_receive_r4 : List Cond := [Cond.selects RX0 yX0_decode yX0_decode, Cond.initialized RX0, Cond.code yX0_decode cX0_decode 6 none, Cond.fieldLink RX0 9 "Commutator$Decoder" "usedFrames" "I", Cond.fieldLink RX0 15 "Commutator$Decoder" "latestNumber" "I", Cond.fieldLink RX0 18 "Commutator$Decoder" "latestCounter" "I", Cond.fieldLink RX0 21 "Commutator$Decoder" "repeatedFrames" "I", Cond.methodLink RX0 24 yX0_noteLost, Cond.instanceMethod yX0_noteLost, Cond.selects RX0 yX0_noteLost yX0_noteLost, Cond.code yX0_noteLost cX0_noteLost 6 none, Cond.fieldLink RX0 32 "Commutator$Decoder" "lostFrames" "I", Cond.methodLink RX0 40 yX5_at, Cond.instanceMethod yX5_at, Cond.selects RX5 yX5_at yX5_at, Cond.initialized RX5, Cond.code yX5_at cX5_at 2 (some (.object "Commutator$Point")), Cond.fieldLink RX5 21 "Commutator$PointTable" "count" "I", Cond.fieldLink RX5 11 "Commutator$PointTable" "rows" "[LCommutator$Point;", Cond.methodLink RX0 44 yX4_isSentIn, Cond.instanceMethod yX4_isSentIn, Cond.selects RX4 yX4_isSentIn yX4_isSentIn, Cond.initialized RX4, Cond.code yX4_isSentIn cX4_isSentIn 2 (some .boolean)]
def wsX9_receive_r5 : List Cond := [Cond.fieldLink RX4 18 "Commutator$Point" "period" "I", Cond.fieldLink RX4 25 "Commutator$Point" "phase" "I", Cond.methodLink RX0 50 yX4_noteMissing, Cond.instanceMethod yX4_noteMissing, Cond.selects RX4 yX4_noteMissing yX4_noteMissing, Cond.code yX4_noteMissing cX4_noteMissing 1 none, Cond.fieldLink RX4 62 "Commutator$Point" "missingCount" "I", Cond.methodLink RX4 46 yX4_samplesInFrame, Cond.instanceMethod yX4_samplesInFrame, Cond.selects RX4 yX4_samplesInFrame yX4_samplesInFrame, Cond.code yX4_samplesInFrame cX4_samplesInFrame 1 (some .int), Cond.fieldLink RX4 21 "Commutator$Point" "twice" "Z", Cond.methodLink RX0 28 yX0_giveSamples, Cond.instanceMethod yX0_giveSamples, Cond.selects RX0 yX0_giveSamples yX0_giveSamples, Cond.code yX0_giveSamples cX0_giveSamples 6 none, Cond.methodLink RX0 53 yX4_readFrom, Cond.instanceMethod yX4_readFrom, Cond.selects RX4 yX4_readFrom yX4_readFrom, Cond.code yX4_readFrom cX4_readFrom 6 none, Cond.fieldLink RX4 9 "Commutator$Point" "width" "I", Cond.fieldLink RX4 34 "Commutator$Point" "latest" "LCommutator$Reading;", Cond.fieldLink RX4 59 "Commutator$Point" "sampleCount" "I", Cond.methodLink RX4 49 yX4_shift]
def wsX9_receive_r6 : List Cond := [Cond.instanceMethod yX4_shift, Cond.selects RX4 yX4_shift yX4_shift, Cond.code yX4_shift cX4_shift 2 (some .int), Cond.methodLink RX4 42 yX4_firstBit, Cond.instanceMethod yX4_firstBit, Cond.selects RX4 yX4_firstBit yX4_firstBit, Cond.code yX4_firstBit cX4_firstBit 2 (some .int), Cond.fieldLink RX4 28 "Commutator$Point" "offset" "I", Cond.methodLink RX4 52 yX4_decode, Cond.instanceMethod yX4_decode, Cond.selects RX4 yX4_decode yX4_decode, Cond.code yX4_decode cX4_decode 3 (some .int), Cond.fieldLink RX4 15 "Commutator$Point" "convention" "I", Cond.methodLink RX4 38 yX4_signWeight, Cond.instanceMethod yX4_signWeight, Cond.selects RX4 yX4_signWeight yX4_signWeight, Cond.code yX4_signWeight cX4_signWeight 1 (some .int), Cond.methodLink RX4 55 yX6_set, Cond.instanceMethod yX6_set, Cond.selects RX6 yX6_set yX6_set, Cond.initialized RX6, Cond.code yX6_set cX6_set 3 none, Cond.fieldLink RX6 7 "Commutator$Reading" "known" "Z", Cond.fieldLink RX6 13 "Commutator$Reading" "amount" "I"]
def wsX9_receive_r7 : List Cond := [Cond.fieldLink RX6 17 "Commutator$Reading" "moment" "I"]
def wsX9_receive : List Cond := .code yX9_receive cX9_receive 5 (some .int) :: ((wsX9_receive_r1 ++ (wsX9_receive_r2 ++ (wsX9_receive_r3 ++ (wsX9_receive_r4 ++ (wsX9_receive_r5 ++ (wsX9_receive_r6 ++ wsX9_receive_r7)))))) ++ wsX90 ++ wsX00 ++ wsX80 ++ wsX30 ++ wsX50 ++ wsX40 ++ wsX60 ++ (vx_at0 RX9 57 "java/lang/IllegalArgumentException" ["java/lang/RuntimeException", "java/lang/Exception"]).filter goodWord)
def wsX9_state : List Cond := .code yX9_state cX9_state 1 (some .int) :: ([.fieldLink RX9 33 "Commutator" "synchroniser" "LCommutator$Synchroniser;"] ++ wsX90 ++ wsX80)
def wsX9_taken : List Cond := .code yX9_taken cX9_taken 1 (some .int) :: ([.fieldLink RX9 33 "Commutator" "synchroniser" "LCommutator$Synchroniser;"] ++ wsX90 ++ wsX80)
def wsX9_frames : List Cond := .code yX9_frames cX9_frames 1 (some .int) :: ([.fieldLink RX9 40 "Commutator" "decoder" "LCommutator$Decoder;"] ++ wsX90 ++ wsX00)
def wsX9_lost : List Cond := .code yX9_lost cX9_lost 1 (some .int) :: ([.fieldLink RX9 40 "Commutator" "decoder" "LCommutator$Decoder;"] ++ wsX90 ++ wsX00)
def wsX9_repeats : List Cond := .code yX9_repeats cX9_repeats 1 (some .int) :: ([.fieldLink RX9 40 "Commutator" "decoder" "LCommutator$Decoder;"] ++ wsX90 ++ wsX00)
def wsX9_number : List Cond := .code yX9_number cX9_number 1 (some .int) :: ([.classLink RX9 157 "java/util/NoSuchElementException", .initialized "java/util/NoSuchElementException", .fieldLink RX9 40 "Commutator" "decoder" "LCommutator$Decoder;"] ++ wsX90 ++ wsX00 ++ (vx_at0 RX9 159 "java/util/NoSuchElementException" ["java/lang/RuntimeException", "java/lang/Exception"]).filter goodWord)
def wsX9_latestOf : List Cond := .code yX9_latestOf cX9_latestOf 1 (some (.object "Commutator$Reading")) :: ([.classLink RX9 157 "java/util/NoSuchElementException", .initialized "java/util/NoSuchElementException"] ++ wsX40 ++ wsX60 ++ (vx_at0 RX9 159 "java/util/NoSuchElementException" ["java/lang/RuntimeException", "java/lang/Exception"]).filter goodWord)
def wsX9_value : List Cond := .code yX9_value cX9_value 2 (some .int) :: ([.methodLink RX9 71 yX9_existingPoint, .instanceMethod yX9_existingPoint, .selects RX9 yX9_existingPoint yX9_existingPoint, .initialized RX9, .code yX9_existingPoint cX9_existingPoint 3 (some (.object "Commutator$Point")), .classLink RX9 107 "java/lang/IndexOutOfBoundsException", .initialized "java/lang/IndexOutOfBoundsException", .fieldLink RX9 10 "Commutator" "table" "LCommutator$PointTable;", .methodLink RX9 202 yX5_at, .instanceMethod yX5_at, .selects RX5 yX5_at yX5_at, .initialized RX5, .code yX5_at cX5_at 2 (some (.object "Commutator$Point")), .fieldLink RX5 21 "Commutator$PointTable" "count" "I", .fieldLink RX5 11 "Commutator$PointTable" "rows" "[LCommutator$Point;", .methodLink RX9 163 yX9_latestOf, .static yX9_latestOf, .code yX9_latestOf cX9_latestOf 1 (some (.object "Commutator$Reading")), .classLink RX9 157 "java/util/NoSuchElementException", .initialized "java/util/NoSuchElementException"] ++ wsX60 ++ wsX90 ++ wsX50 ++ wsX40 ++ (vx_at0 RX9 109 "java/lang/IndexOutOfBoundsException" ["java/lang/RuntimeException", "java/lang/Exception"]).filter goodWord ++ (vx_at0 RX9 159 "java/util/NoSuchElementException" ["java/lang/RuntimeException", "java/lang/Exception"]).filter goodWord)
def wsX9_time : List Cond := .code yX9_time cX9_time 2 (some .int) :: ([.methodLink RX9 71 yX9_existingPoint, .instanceMethod yX9_existingPoint, .selects RX9 yX9_existingPoint yX9_existingPoint, .initialized RX9, .code yX9_existingPoint cX9_existingPoint 3 (some (.object "Commutator$Point")), .classLink RX9 107 "java/lang/IndexOutOfBoundsException", .initialized "java/lang/IndexOutOfBoundsException", .fieldLink RX9 10 "Commutator" "table" "LCommutator$PointTable;", .methodLink RX9 202 yX5_at, .instanceMethod yX5_at, .selects RX5 yX5_at yX5_at, .initialized RX5, .code yX5_at cX5_at 2 (some (.object "Commutator$Point")), .fieldLink RX5 21 "Commutator$PointTable" "count" "I", .fieldLink RX5 11 "Commutator$PointTable" "rows" "[LCommutator$Point;", .methodLink RX9 163 yX9_latestOf, .static yX9_latestOf, .code yX9_latestOf cX9_latestOf 1 (some (.object "Commutator$Reading")), .classLink RX9 157 "java/util/NoSuchElementException", .initialized "java/util/NoSuchElementException"] ++ wsX60 ++ wsX90 ++ wsX50 ++ wsX40 ++ (vx_at0 RX9 109 "java/lang/IndexOutOfBoundsException" ["java/lang/RuntimeException", "java/lang/Exception"]).filter goodWord ++ (vx_at0 RX9 159 "java/util/NoSuchElementException" ["java/lang/RuntimeException", "java/lang/Exception"]).filter goodWord)
def wsX9_samples : List Cond := .code yX9_samples cX9_samples 2 (some .int) :: ([.methodLink RX9 71 yX9_existingPoint, .instanceMethod yX9_existingPoint, .selects RX9 yX9_existingPoint yX9_existingPoint, .initialized RX9, .code yX9_existingPoint cX9_existingPoint 3 (some (.object "Commutator$Point")), .classLink RX9 107 "java/lang/IndexOutOfBoundsException", .initialized "java/lang/IndexOutOfBoundsException", .fieldLink RX9 10 "Commutator" "table" "LCommutator$PointTable;", .methodLink RX9 202 yX5_at, .instanceMethod yX5_at, .selects RX5 yX5_at yX5_at, .initialized RX5, .code yX5_at cX5_at 2 (some (.object "Commutator$Point")), .fieldLink RX5 21 "Commutator$PointTable" "count" "I", .fieldLink RX5 11 "Commutator$PointTable" "rows" "[LCommutator$Point;"] ++ wsX40 ++ wsX90 ++ wsX50 ++ (vx_at0 RX9 109 "java/lang/IndexOutOfBoundsException" ["java/lang/RuntimeException", "java/lang/Exception"]).filter goodWord)
def wsX9_missing : List Cond := .code yX9_missing cX9_missing 2 (some .int) :: ([.methodLink RX9 71 yX9_existingPoint, .instanceMethod yX9_existingPoint, .selects RX9 yX9_existingPoint yX9_existingPoint, .initialized RX9, .code yX9_existingPoint cX9_existingPoint 3 (some (.object "Commutator$Point")), .classLink RX9 107 "java/lang/IndexOutOfBoundsException", .initialized "java/lang/IndexOutOfBoundsException", .fieldLink RX9 10 "Commutator" "table" "LCommutator$PointTable;", .methodLink RX9 202 yX5_at, .instanceMethod yX5_at, .selects RX5 yX5_at yX5_at, .initialized RX5, .code yX5_at cX5_at 2 (some (.object "Commutator$Point")), .fieldLink RX5 21 "Commutator$PointTable" "count" "I", .fieldLink RX5 11 "Commutator$PointTable" "rows" "[LCommutator$Point;"] ++ wsX40 ++ wsX90 ++ wsX50 ++ (vx_at0 RX9 109 "java/lang/IndexOutOfBoundsException" ["java/lang/RuntimeException", "java/lang/Exception"]).filter goodWord)
def wsX9_isDerived : List Cond := .code yX9_isDerived cX9_isDerived 1 (some .boolean) :: ([])
def wsX9_isOperand : List Cond := .code yX9_isOperand cX9_isOperand 1 (some .boolean) :: ([.methodLink RX9 181 yX9_isDerived, .static yX9_isDerived, .initialized RX9, .code yX9_isDerived cX9_isDerived 1 (some .boolean)])
def wsX9_derive_r1 : List Cond := [Cond.classLink RX9 55 "java/lang/IllegalArgumentException", Cond.initialized "java/lang/IllegalArgumentException", Cond.classLink RX9 65 "java/lang/IllegalStateException", Cond.initialized "java/lang/IllegalStateException", Cond.fieldLink RX9 47 "Commutator" "derivedTable" "LCommutator$DerivedTable;", Cond.methodLink RX9 181 yX9_isDerived, Cond.static yX9_isDerived, Cond.initialized RX9, Cond.code yX9_isDerived cX9_isDerived 1 (some .boolean), Cond.methodLink RX9 184 yX9_isOperand, Cond.static yX9_isOperand, Cond.code yX9_isOperand cX9_isOperand 1 (some .boolean), Cond.methodLink RX9 187 yX2_wouldNeedItself, Cond.instanceMethod yX2_wouldNeedItself, Cond.selects RX2 yX2_wouldNeedItself yX2_wouldNeedItself, Cond.initialized RX2, Cond.code yX2_wouldNeedItself cX2_wouldNeedItself 6 (some .boolean), Cond.fieldLink RX2 11 "Commutator$DerivedTable" "rows" "[LCommutator$Derived;", Cond.methodLink RX2 36 yX2_operandMask, Cond.static yX2_operandMask, Cond.code yX2_operandMask cX2_operandMask 1 (some .int), Cond.methodLink RX2 40 yX2_needsOf, Cond.instanceMethod yX2_needsOf, Cond.selects RX2 yX2_needsOf yX2_needsOf]
def wsX9_derive_r2 : List Cond := [Cond.code yX2_needsOf cX2_needsOf 5 (some .int), Cond.methodLink RX9 191 yX2_define, Cond.instanceMethod yX2_define, Cond.selects RX2 yX2_define yX2_define, Cond.code yX2_define cX2_define 6 none, Cond.methodLink RX2 18 yX2_at, Cond.instanceMethod yX2_at, Cond.selects RX2 yX2_at yX2_at, Cond.code yX2_at cX2_at 2 (some (.object "Commutator$Derived"))]
def wsX9_derive : List Cond := .code yX9_derive cX9_derive 5 none :: ((wsX9_derive_r1 ++ wsX9_derive_r2) ++ wsX90 ++ wsX20 ++ wsX10 ++ (vx_at0 RX9 57 "java/lang/IllegalArgumentException" ["java/lang/RuntimeException", "java/lang/Exception"]).filter goodWord ++ (vx_at0 RX9 67 "java/lang/IllegalStateException" ["java/lang/RuntimeException", "java/lang/Exception"]).filter goodWord)
def wsX9_resultOf_r1 : List Cond := [Cond.classLink RX9 55 "java/lang/IllegalArgumentException", Cond.initialized "java/lang/IllegalArgumentException", Cond.classLink RX9 157 "java/util/NoSuchElementException", Cond.initialized "java/util/NoSuchElementException", Cond.fieldLink RX9 47 "Commutator" "derivedTable" "LCommutator$DerivedTable;", Cond.fieldLink RX9 10 "Commutator" "table" "LCommutator$PointTable;", Cond.methodLink RX9 181 yX9_isDerived, Cond.static yX9_isDerived, Cond.initialized RX9, Cond.code yX9_isDerived cX9_isDerived 1 (some .boolean), Cond.methodLink RX9 212 yX2_compute, Cond.instanceMethod yX2_compute, Cond.selects RX2 yX2_compute yX2_compute, Cond.initialized RX2, Cond.code yX2_compute cX2_compute 5 (some (.object "Commutator$Reading")), Cond.fieldLink RX2 11 "Commutator$DerivedTable" "rows" "[LCommutator$Derived;", Cond.methodLink RX2 47 yX6_forget, Cond.instanceMethod yX6_forget, Cond.selects RX6 yX6_forget yX6_forget, Cond.initialized RX6, Cond.code yX6_forget cX6_forget 1 none, Cond.fieldLink RX6 7 "Commutator$Reading" "known" "Z", Cond.methodLink RX2 52 yX2_computeOne, Cond.instanceMethod yX2_computeOne]
def wsX9_resultOf_r2 : List Cond := [Cond.selects RX2 yX2_computeOne yX2_computeOne, Cond.code yX2_computeOne cX2_computeOne 5 none, Cond.methodLink RX2 59 yX2_operand, Cond.instanceMethod yX2_operand, Cond.selects RX2 yX2_operand yX2_operand, Cond.code yX2_operand cX2_operand 4 (some (.object "Commutator$Reading")), Cond.methodLink RX2 18 yX2_at, Cond.instanceMethod yX2_at, Cond.selects RX2 yX2_at yX2_at, Cond.code yX2_at cX2_at 2 (some (.object "Commutator$Derived")), Cond.methodLink RX2 67 yX5_at, Cond.instanceMethod yX5_at, Cond.selects RX5 yX5_at yX5_at, Cond.initialized RX5, Cond.code yX5_at cX5_at 2 (some (.object "Commutator$Point")), Cond.fieldLink RX5 21 "Commutator$PointTable" "count" "I", Cond.fieldLink RX5 11 "Commutator$PointTable" "rows" "[LCommutator$Point;", Cond.methodLink RX2 63 yX1_combine, Cond.instanceMethod yX1_combine, Cond.selects RX1 yX1_combine yX1_combine, Cond.initialized RX1, Cond.code yX1_combine cX1_combine 4 none, Cond.constantLong RX1 16 (-1000000), Cond.constantLong RX1 18 (1000000)]
def wsX9_resultOf_r3 : List Cond := [Cond.methodLink RX1 28 Lib.MathLoose.min_long.x, Cond.static Lib.MathLoose.min_long.x, Cond.initialized "java/lang/Math", Cond.code Lib.MathLoose.min_long.x Lib.MathLoose.min_long.code 4 (some .long), Cond.methodLink RX1 33 Lib.MathLoose.max_long.x, Cond.static Lib.MathLoose.max_long.x, Cond.code Lib.MathLoose.max_long.x Lib.MathLoose.max_long.code 4 (some .long), Cond.fieldLink RX1 10 "Commutator$Derived" "result" "LCommutator$Reading;", Cond.methodLink RX1 39 Lib.Math.max.name, Cond.static Lib.Math.max.name, Cond.code Lib.Math.max.name Lib.Math.max.code 2 (some .int), Cond.methodLink RX1 24 yX1_operate, Cond.instanceMethod yX1_operate, Cond.selects RX1 yX1_operate yX1_operate, Cond.code yX1_operate cX1_operate 5 (some .long), Cond.fieldLink RX1 46 "Commutator$Derived" "operation" "I", Cond.methodLink RX1 42 yX6_set, Cond.instanceMethod yX6_set, Cond.selects RX6 yX6_set yX6_set, Cond.code yX6_set cX6_set 3 none, Cond.fieldLink RX6 13 "Commutator$Reading" "amount" "I", Cond.fieldLink RX6 17 "Commutator$Reading" "moment" "I"]
def wsX9_resultOf : List Cond := .code yX9_resultOf cX9_resultOf 3 (some (.object "Commutator$Reading")) :: ((wsX9_resultOf_r1 ++ (wsX9_resultOf_r2 ++ wsX9_resultOf_r3)) ++ wsX90 ++ wsX60 ++ wsX20 ++ wsX10 ++ wsX40 ++ wsX50 ++ (vx_at0 RX9 57 "java/lang/IllegalArgumentException" ["java/lang/RuntimeException", "java/lang/Exception"]).filter goodWord ++ (vx_at0 RX9 159 "java/util/NoSuchElementException" ["java/lang/RuntimeException", "java/lang/Exception"]).filter goodWord)
def wsX9_derivedValue_r1 : List Cond := [Cond.methodLink RX9 195 yX9_resultOf, Cond.instanceMethod yX9_resultOf, Cond.selects RX9 yX9_resultOf yX9_resultOf, Cond.initialized RX9, Cond.code yX9_resultOf cX9_resultOf 3 (some (.object "Commutator$Reading")), Cond.classLink RX9 55 "java/lang/IllegalArgumentException", Cond.initialized "java/lang/IllegalArgumentException", Cond.classLink RX9 157 "java/util/NoSuchElementException", Cond.initialized "java/util/NoSuchElementException", Cond.fieldLink RX9 47 "Commutator" "derivedTable" "LCommutator$DerivedTable;", Cond.fieldLink RX9 10 "Commutator" "table" "LCommutator$PointTable;", Cond.methodLink RX9 181 yX9_isDerived, Cond.static yX9_isDerived, Cond.code yX9_isDerived cX9_isDerived 1 (some .boolean), Cond.methodLink RX9 212 yX2_compute, Cond.instanceMethod yX2_compute, Cond.selects RX2 yX2_compute yX2_compute, Cond.initialized RX2, Cond.code yX2_compute cX2_compute 5 (some (.object "Commutator$Reading")), Cond.fieldLink RX2 11 "Commutator$DerivedTable" "rows" "[LCommutator$Derived;", Cond.methodLink RX2 47 yX6_forget, Cond.instanceMethod yX6_forget, Cond.selects RX6 yX6_forget yX6_forget, Cond.initialized RX6]
def wsX9_derivedValue_r2 : List Cond := [Cond.code yX6_forget cX6_forget 1 none, Cond.fieldLink RX6 7 "Commutator$Reading" "known" "Z", Cond.methodLink RX2 52 yX2_computeOne, Cond.instanceMethod yX2_computeOne, Cond.selects RX2 yX2_computeOne yX2_computeOne, Cond.code yX2_computeOne cX2_computeOne 5 none, Cond.methodLink RX2 59 yX2_operand, Cond.instanceMethod yX2_operand, Cond.selects RX2 yX2_operand yX2_operand, Cond.code yX2_operand cX2_operand 4 (some (.object "Commutator$Reading")), Cond.methodLink RX2 18 yX2_at, Cond.instanceMethod yX2_at, Cond.selects RX2 yX2_at yX2_at, Cond.code yX2_at cX2_at 2 (some (.object "Commutator$Derived")), Cond.methodLink RX2 67 yX5_at, Cond.instanceMethod yX5_at, Cond.selects RX5 yX5_at yX5_at, Cond.initialized RX5, Cond.code yX5_at cX5_at 2 (some (.object "Commutator$Point")), Cond.fieldLink RX5 21 "Commutator$PointTable" "count" "I", Cond.fieldLink RX5 11 "Commutator$PointTable" "rows" "[LCommutator$Point;", Cond.methodLink RX2 63 yX1_combine, Cond.instanceMethod yX1_combine, Cond.selects RX1 yX1_combine yX1_combine]
def wsX9_derivedValue_r3 : List Cond := [Cond.initialized RX1, Cond.code yX1_combine cX1_combine 4 none, Cond.constantLong RX1 16 (-1000000), Cond.constantLong RX1 18 (1000000), Cond.methodLink RX1 28 Lib.MathLoose.min_long.x, Cond.static Lib.MathLoose.min_long.x, Cond.initialized "java/lang/Math", Cond.code Lib.MathLoose.min_long.x Lib.MathLoose.min_long.code 4 (some .long), Cond.methodLink RX1 33 Lib.MathLoose.max_long.x, Cond.static Lib.MathLoose.max_long.x, Cond.code Lib.MathLoose.max_long.x Lib.MathLoose.max_long.code 4 (some .long), Cond.fieldLink RX1 10 "Commutator$Derived" "result" "LCommutator$Reading;", Cond.methodLink RX1 39 Lib.Math.max.name, Cond.static Lib.Math.max.name, Cond.code Lib.Math.max.name Lib.Math.max.code 2 (some .int), Cond.methodLink RX1 24 yX1_operate, Cond.instanceMethod yX1_operate, Cond.selects RX1 yX1_operate yX1_operate, Cond.code yX1_operate cX1_operate 5 (some .long), Cond.fieldLink RX1 46 "Commutator$Derived" "operation" "I", Cond.methodLink RX1 42 yX6_set, Cond.instanceMethod yX6_set, Cond.selects RX6 yX6_set yX6_set, Cond.code yX6_set cX6_set 3 none]
def wsX9_derivedValue_r4 : List Cond := [Cond.fieldLink RX6 13 "Commutator$Reading" "amount" "I", Cond.fieldLink RX6 17 "Commutator$Reading" "moment" "I"]
def wsX9_derivedValue : List Cond := .code yX9_derivedValue cX9_derivedValue 2 (some .int) :: ((wsX9_derivedValue_r1 ++ (wsX9_derivedValue_r2 ++ (wsX9_derivedValue_r3 ++ wsX9_derivedValue_r4))) ++ wsX60 ++ wsX90 ++ wsX20 ++ wsX10 ++ wsX40 ++ wsX50 ++ (vx_at0 RX9 57 "java/lang/IllegalArgumentException" ["java/lang/RuntimeException", "java/lang/Exception"]).filter goodWord ++ (vx_at0 RX9 159 "java/util/NoSuchElementException" ["java/lang/RuntimeException", "java/lang/Exception"]).filter goodWord)
def wsX9_derivedTime_r1 : List Cond := [Cond.methodLink RX9 195 yX9_resultOf, Cond.instanceMethod yX9_resultOf, Cond.selects RX9 yX9_resultOf yX9_resultOf, Cond.initialized RX9, Cond.code yX9_resultOf cX9_resultOf 3 (some (.object "Commutator$Reading")), Cond.classLink RX9 55 "java/lang/IllegalArgumentException", Cond.initialized "java/lang/IllegalArgumentException", Cond.classLink RX9 157 "java/util/NoSuchElementException", Cond.initialized "java/util/NoSuchElementException", Cond.fieldLink RX9 47 "Commutator" "derivedTable" "LCommutator$DerivedTable;", Cond.fieldLink RX9 10 "Commutator" "table" "LCommutator$PointTable;", Cond.methodLink RX9 181 yX9_isDerived, Cond.static yX9_isDerived, Cond.code yX9_isDerived cX9_isDerived 1 (some .boolean), Cond.methodLink RX9 212 yX2_compute, Cond.instanceMethod yX2_compute, Cond.selects RX2 yX2_compute yX2_compute, Cond.initialized RX2, Cond.code yX2_compute cX2_compute 5 (some (.object "Commutator$Reading")), Cond.fieldLink RX2 11 "Commutator$DerivedTable" "rows" "[LCommutator$Derived;", Cond.methodLink RX2 47 yX6_forget, Cond.instanceMethod yX6_forget, Cond.selects RX6 yX6_forget yX6_forget, Cond.initialized RX6]
def wsX9_derivedTime_r2 : List Cond := [Cond.code yX6_forget cX6_forget 1 none, Cond.fieldLink RX6 7 "Commutator$Reading" "known" "Z", Cond.methodLink RX2 52 yX2_computeOne, Cond.instanceMethod yX2_computeOne, Cond.selects RX2 yX2_computeOne yX2_computeOne, Cond.code yX2_computeOne cX2_computeOne 5 none, Cond.methodLink RX2 59 yX2_operand, Cond.instanceMethod yX2_operand, Cond.selects RX2 yX2_operand yX2_operand, Cond.code yX2_operand cX2_operand 4 (some (.object "Commutator$Reading")), Cond.methodLink RX2 18 yX2_at, Cond.instanceMethod yX2_at, Cond.selects RX2 yX2_at yX2_at, Cond.code yX2_at cX2_at 2 (some (.object "Commutator$Derived")), Cond.methodLink RX2 67 yX5_at, Cond.instanceMethod yX5_at, Cond.selects RX5 yX5_at yX5_at, Cond.initialized RX5, Cond.code yX5_at cX5_at 2 (some (.object "Commutator$Point")), Cond.fieldLink RX5 21 "Commutator$PointTable" "count" "I", Cond.fieldLink RX5 11 "Commutator$PointTable" "rows" "[LCommutator$Point;", Cond.methodLink RX2 63 yX1_combine, Cond.instanceMethod yX1_combine, Cond.selects RX1 yX1_combine yX1_combine]
def wsX9_derivedTime_r3 : List Cond := [Cond.initialized RX1, Cond.code yX1_combine cX1_combine 4 none, Cond.constantLong RX1 16 (-1000000), Cond.constantLong RX1 18 (1000000), Cond.methodLink RX1 28 Lib.MathLoose.min_long.x, Cond.static Lib.MathLoose.min_long.x, Cond.initialized "java/lang/Math", Cond.code Lib.MathLoose.min_long.x Lib.MathLoose.min_long.code 4 (some .long), Cond.methodLink RX1 33 Lib.MathLoose.max_long.x, Cond.static Lib.MathLoose.max_long.x, Cond.code Lib.MathLoose.max_long.x Lib.MathLoose.max_long.code 4 (some .long), Cond.fieldLink RX1 10 "Commutator$Derived" "result" "LCommutator$Reading;", Cond.methodLink RX1 39 Lib.Math.max.name, Cond.static Lib.Math.max.name, Cond.code Lib.Math.max.name Lib.Math.max.code 2 (some .int), Cond.methodLink RX1 24 yX1_operate, Cond.instanceMethod yX1_operate, Cond.selects RX1 yX1_operate yX1_operate, Cond.code yX1_operate cX1_operate 5 (some .long), Cond.fieldLink RX1 46 "Commutator$Derived" "operation" "I", Cond.methodLink RX1 42 yX6_set, Cond.instanceMethod yX6_set, Cond.selects RX6 yX6_set yX6_set, Cond.code yX6_set cX6_set 3 none]
def wsX9_derivedTime_r4 : List Cond := [Cond.fieldLink RX6 13 "Commutator$Reading" "amount" "I", Cond.fieldLink RX6 17 "Commutator$Reading" "moment" "I"]
def wsX9_derivedTime : List Cond := .code yX9_derivedTime cX9_derivedTime 2 (some .int) :: ((wsX9_derivedTime_r1 ++ (wsX9_derivedTime_r2 ++ (wsX9_derivedTime_r3 ++ wsX9_derivedTime_r4))) ++ wsX60 ++ wsX90 ++ wsX20 ++ wsX10 ++ wsX40 ++ wsX50 ++ (vx_at0 RX9 57 "java/lang/IllegalArgumentException" ["java/lang/RuntimeException", "java/lang/Exception"]).filter goodWord ++ (vx_at0 RX9 159 "java/util/NoSuchElementException" ["java/lang/RuntimeException", "java/lang/Exception"]).filter goodWord)
def wsX9_matches : List Cond := .code yX9_matches cX9_matches 2 (some .int) :: ([.classLink RX9 55 "java/lang/IllegalArgumentException", .initialized "java/lang/IllegalArgumentException", .fieldLink RX9 33 "Commutator" "synchroniser" "LCommutator$Synchroniser;", .methodLink RX9 199 yX8_syncWordsAt, .instanceMethod yX8_syncWordsAt, .selects RX8 yX8_syncWordsAt yX8_syncWordsAt, .initialized RX8, .code yX8_syncWordsAt cX8_syncWordsAt 2 (some .int), .fieldLink RX8 15 "Commutator$Synchroniser" "syncWords" "[I"] ++ wsX90 ++ wsX80 ++ (vx_at0 RX9 57 "java/lang/IllegalArgumentException" ["java/lang/RuntimeException", "java/lang/Exception"]).filter goodWord)
def wsX9_bestOffset : List Cond := .code yX9_bestOffset cX9_bestOffset 3 (some .int) :: ([.fieldLink RX9 33 "Commutator" "synchroniser" "LCommutator$Synchroniser;", .methodLink RX9 199 yX8_syncWordsAt, .instanceMethod yX8_syncWordsAt, .selects RX8 yX8_syncWordsAt yX8_syncWordsAt, .initialized RX8, .code yX8_syncWordsAt cX8_syncWordsAt 2 (some .int), .fieldLink RX8 15 "Commutator$Synchroniser" "syncWords" "[I"] ++ wsX90 ++ wsX80)
def wsX10_init_r1 : List Cond := [Cond.methodLink RX10 1 objectInit, Cond.instanceMethod objectInit, Cond.code objectInit ⟨#[0xb1]⟩ 1 none, Cond.arrayClass .int, Cond.fieldLink RX10 7 "CommutatorModel" "width" "[I", Cond.fieldLink RX10 13 "CommutatorModel" "convention" "[I", Cond.fieldLink RX10 16 "CommutatorModel" "period" "[I", Cond.fieldLink RX10 19 "CommutatorModel" "samplesEach" "[I", Cond.fieldLink RX10 22 "CommutatorModel" "phase" "[I", Cond.fieldLink RX10 25 "CommutatorModel" "offset" "[I", Cond.fieldLink RX10 28 "CommutatorModel" "present" "[I", Cond.fieldLink RX10 31 "CommutatorModel" "sending" "[I", Cond.fieldLink RX10 34 "CommutatorModel" "line" "[I", Cond.fieldLink RX10 37 "CommutatorModel" "past" "[I", Cond.fieldLink RX10 40 "CommutatorModel" "value" "[I", Cond.fieldLink RX10 43 "CommutatorModel" "time" "[I", Cond.fieldLink RX10 46 "CommutatorModel" "samples" "[I", Cond.fieldLink RX10 49 "CommutatorModel" "missing" "[I", Cond.fieldLink RX10 52 "CommutatorModel" "operation" "[I", Cond.fieldLink RX10 55 "CommutatorModel" "first" "[I", Cond.fieldLink RX10 58 "CommutatorModel" "second" "[I", Cond.arrayClass .boolean, Cond.fieldLink RX10 61 "CommutatorModel" "isKnown" "[Z", Cond.fieldLink RX10 65 "CommutatorModel" "derived" "[I"]
def wsX10_init_r2 : List Cond := [Cond.fieldLink RX10 68 "CommutatorModel" "derivedAt" "[I", Cond.fieldLink RX10 71 "CommutatorModel" "counter" "I", Cond.fieldLink RX10 75 "CommutatorModel" "begun" "I"]
def wsX10_init : List Cond := .code yX10_init cX10_init 2 none :: ((wsX10_init_r1 ++ wsX10_init_r2) ++ wsX100)
def wsX10_thrown : List Cond := .code yX10_thrown cX10_thrown 1 (some .int) :: ([.fieldLink RX10 78 "CommutatorModel" "thrown" "I"] ++ wsX100)
def wsX10_can : List Cond := .code yX10_can cX10_can 2 (some .boolean) :: ([.fieldLink RX10 78 "CommutatorModel" "thrown" "I"] ++ wsX100)
def wsX10_isIn : List Cond := .code yX10_isIn cX10_isIn 3 (some .boolean) :: ([])
def wsX10_isPoint : List Cond := .code yX10_isPoint cX10_isPoint 2 (some .boolean) :: ([.fieldLink RX10 81 "CommutatorModel" "points" "I", .methodLink RX10 84 yX10_isIn, .static yX10_isIn, .initialized RX10, .code yX10_isIn cX10_isIn 3 (some .boolean)] ++ wsX100)
def wsX10_isSent : List Cond := .code yX10_isSent cX10_isSent 3 (some .boolean) :: ([.fieldLink RX10 16 "CommutatorModel" "period" "[I", .fieldLink RX10 22 "CommutatorModel" "phase" "[I"] ++ wsX100)
def wsX10_userOf : List Cond := .code yX10_userOf cX10_userOf 7 (some .int) :: ([.fieldLink RX10 81 "CommutatorModel" "points" "I", .fieldLink RX10 25 "CommutatorModel" "offset" "[I", .fieldLink RX10 7 "CommutatorModel" "width" "[I", .fieldLink RX10 19 "CommutatorModel" "samplesEach" "[I", .methodLink RX10 88 yX10_isSent, .instanceMethod yX10_isSent, .selects RX10 yX10_isSent yX10_isSent, .initialized RX10, .code yX10_isSent cX10_isSent 3 (some .boolean), .fieldLink RX10 16 "CommutatorModel" "period" "[I", .fieldLink RX10 22 "CommutatorModel" "phase" "[I"] ++ wsX100)
def wsX10_isFree : List Cond := .code yX10_isFree cX10_isFree 9 (some .boolean) :: ([.methodLink RX10 92 yX10_userOf, .instanceMethod yX10_userOf, .selects RX10 yX10_userOf yX10_userOf, .initialized RX10, .code yX10_userOf cX10_userOf 7 (some .int), .fieldLink RX10 81 "CommutatorModel" "points" "I", .fieldLink RX10 25 "CommutatorModel" "offset" "[I", .fieldLink RX10 7 "CommutatorModel" "width" "[I", .fieldLink RX10 19 "CommutatorModel" "samplesEach" "[I", .methodLink RX10 88 yX10_isSent, .instanceMethod yX10_isSent, .selects RX10 yX10_isSent yX10_isSent, .code yX10_isSent cX10_isSent 3 (some .boolean), .fieldLink RX10 16 "CommutatorModel" "period" "[I", .fieldLink RX10 22 "CommutatorModel" "phase" "[I"] ++ wsX100)
def wsX10_firstPlace : List Cond := .code yX10_firstPlace cX10_firstPlace 6 (some .int) :: ([.methodLink RX10 96 yX10_isFree, .instanceMethod yX10_isFree, .selects RX10 yX10_isFree yX10_isFree, .initialized RX10, .code yX10_isFree cX10_isFree 9 (some .boolean), .methodLink RX10 92 yX10_userOf, .instanceMethod yX10_userOf, .selects RX10 yX10_userOf yX10_userOf, .code yX10_userOf cX10_userOf 7 (some .int), .fieldLink RX10 81 "CommutatorModel" "points" "I", .fieldLink RX10 25 "CommutatorModel" "offset" "[I", .fieldLink RX10 7 "CommutatorModel" "width" "[I", .fieldLink RX10 19 "CommutatorModel" "samplesEach" "[I", .methodLink RX10 88 yX10_isSent, .instanceMethod yX10_isSent, .selects RX10 yX10_isSent yX10_isSent, .code yX10_isSent cX10_isSent 3 (some .boolean), .fieldLink RX10 16 "CommutatorModel" "period" "[I", .fieldLink RX10 22 "CommutatorModel" "phase" "[I"] ++ wsX100)
def wsX10_addPoint_r1 : List Cond := [Cond.fieldLink RX10 81 "CommutatorModel" "points" "I", Cond.fieldLink RX10 104 "CommutatorModel" "words" "I", Cond.fieldLink RX10 7 "CommutatorModel" "width" "[I", Cond.fieldLink RX10 13 "CommutatorModel" "convention" "[I", Cond.fieldLink RX10 16 "CommutatorModel" "period" "[I", Cond.fieldLink RX10 19 "CommutatorModel" "samplesEach" "[I", Cond.fieldLink RX10 22 "CommutatorModel" "phase" "[I", Cond.fieldLink RX10 25 "CommutatorModel" "offset" "[I", Cond.methodLink RX10 84 yX10_isIn, Cond.static yX10_isIn, Cond.initialized RX10, Cond.code yX10_isIn cX10_isIn 3 (some .boolean), Cond.methodLink RX10 100 yX10_firstPlace, Cond.instanceMethod yX10_firstPlace, Cond.selects RX10 yX10_firstPlace yX10_firstPlace, Cond.code yX10_firstPlace cX10_firstPlace 6 (some .int), Cond.methodLink RX10 96 yX10_isFree, Cond.instanceMethod yX10_isFree, Cond.selects RX10 yX10_isFree yX10_isFree, Cond.code yX10_isFree cX10_isFree 9 (some .boolean), Cond.methodLink RX10 92 yX10_userOf, Cond.instanceMethod yX10_userOf, Cond.selects RX10 yX10_userOf yX10_userOf, Cond.code yX10_userOf cX10_userOf 7 (some .int)]
def wsX10_addPoint_r2 : List Cond := [Cond.methodLink RX10 88 yX10_isSent, Cond.instanceMethod yX10_isSent, Cond.selects RX10 yX10_isSent yX10_isSent, Cond.code yX10_isSent cX10_isSent 3 (some .boolean), Cond.methodLink RX10 107 yX10_can, Cond.instanceMethod yX10_can, Cond.selects RX10 yX10_can yX10_can, Cond.code yX10_can cX10_can 2 (some .boolean), Cond.fieldLink RX10 78 "CommutatorModel" "thrown" "I"]
def wsX10_addPoint : List Cond := .code yX10_addPoint cX10_addPoint 7 (some .int) :: ((wsX10_addPoint_r1 ++ wsX10_addPoint_r2) ++ wsX100)
def wsX10_points : List Cond := .code yX10_points cX10_points 1 (some .int) :: ([.fieldLink RX10 78 "CommutatorModel" "thrown" "I", .fieldLink RX10 81 "CommutatorModel" "points" "I"] ++ wsX100)
def wsX10_place : List Cond := .code yX10_place cX10_place 2 (some .int) :: ([.fieldLink RX10 22 "CommutatorModel" "phase" "[I", .fieldLink RX10 25 "CommutatorModel" "offset" "[I", .methodLink RX10 111 yX10_isPoint, .instanceMethod yX10_isPoint, .selects RX10 yX10_isPoint yX10_isPoint, .initialized RX10, .code yX10_isPoint cX10_isPoint 2 (some .boolean), .fieldLink RX10 81 "CommutatorModel" "points" "I", .methodLink RX10 84 yX10_isIn, .static yX10_isIn, .code yX10_isIn cX10_isIn 3 (some .boolean), .methodLink RX10 107 yX10_can, .instanceMethod yX10_can, .selects RX10 yX10_can yX10_can, .code yX10_can cX10_can 2 (some .boolean), .fieldLink RX10 78 "CommutatorModel" "thrown" "I"] ++ wsX100)
def wsX10_spare : List Cond := .code yX10_spare cX10_spare 3 (some .int) :: ([.fieldLink RX10 78 "CommutatorModel" "thrown" "I", .methodLink RX10 92 yX10_userOf, .instanceMethod yX10_userOf, .selects RX10 yX10_userOf yX10_userOf, .initialized RX10, .code yX10_userOf cX10_userOf 7 (some .int), .fieldLink RX10 81 "CommutatorModel" "points" "I", .fieldLink RX10 25 "CommutatorModel" "offset" "[I", .fieldLink RX10 7 "CommutatorModel" "width" "[I", .fieldLink RX10 19 "CommutatorModel" "samplesEach" "[I", .methodLink RX10 88 yX10_isSent, .instanceMethod yX10_isSent, .selects RX10 yX10_isSent yX10_isSent, .code yX10_isSent cX10_isSent 3 (some .boolean), .fieldLink RX10 16 "CommutatorModel" "period" "[I", .fieldLink RX10 22 "CommutatorModel" "phase" "[I"] ++ wsX100)
def wsX10_put : List Cond := .code yX10_put cX10_put 7 (some .int) :: ([.fieldLink RX10 7 "CommutatorModel" "width" "[I", .fieldLink RX10 13 "CommutatorModel" "convention" "[I", .fieldLink RX10 28 "CommutatorModel" "present" "[I", .methodLink RX10 111 yX10_isPoint, .instanceMethod yX10_isPoint, .selects RX10 yX10_isPoint yX10_isPoint, .initialized RX10, .code yX10_isPoint cX10_isPoint 2 (some .boolean), .fieldLink RX10 81 "CommutatorModel" "points" "I", .methodLink RX10 84 yX10_isIn, .static yX10_isIn, .code yX10_isIn cX10_isIn 3 (some .boolean), .methodLink RX10 107 yX10_can, .instanceMethod yX10_can, .selects RX10 yX10_can yX10_can, .code yX10_can cX10_can 2 (some .boolean), .fieldLink RX10 78 "CommutatorModel" "thrown" "I"] ++ wsX100)
def wsX10_coded : List Cond := .code yX10_coded cX10_coded 4 (some .int) :: ([.fieldLink RX10 7 "CommutatorModel" "width" "[I", .fieldLink RX10 13 "CommutatorModel" "convention" "[I"] ++ wsX100)
def wsX10_read : List Cond := .code yX10_read cX10_read 4 (some .int) :: ([.fieldLink RX10 7 "CommutatorModel" "width" "[I", .fieldLink RX10 13 "CommutatorModel" "convention" "[I"] ++ wsX100)
def wsX10_sendWord_r1 : List Cond := [Cond.fieldLink RX10 104 "CommutatorModel" "words" "I", Cond.fieldLink RX10 81 "CommutatorModel" "points" "I", Cond.fieldLink RX10 19 "CommutatorModel" "samplesEach" "[I", Cond.fieldLink RX10 25 "CommutatorModel" "offset" "[I", Cond.fieldLink RX10 31 "CommutatorModel" "sending" "[I", Cond.fieldLink RX10 28 "CommutatorModel" "present" "[I", Cond.fieldLink RX10 7 "CommutatorModel" "width" "[I", Cond.fieldLink RX10 34 "CommutatorModel" "line" "[I", Cond.fieldLink RX10 117 "CommutatorModel" "onLine" "I", Cond.methodLink RX10 88 yX10_isSent, Cond.instanceMethod yX10_isSent, Cond.selects RX10 yX10_isSent yX10_isSent, Cond.initialized RX10, Cond.code yX10_isSent cX10_isSent 3 (some .boolean), Cond.fieldLink RX10 16 "CommutatorModel" "period" "[I", Cond.fieldLink RX10 22 "CommutatorModel" "phase" "[I", Cond.methodLink RX10 114 yX10_coded, Cond.instanceMethod yX10_coded, Cond.selects RX10 yX10_coded yX10_coded, Cond.code yX10_coded cX10_coded 4 (some .int), Cond.fieldLink RX10 13 "CommutatorModel" "convention" "[I", Cond.methodLink RX10 92 yX10_userOf, Cond.instanceMethod yX10_userOf, Cond.selects RX10 yX10_userOf yX10_userOf]
def wsX10_sendWord_r2 : List Cond := [Cond.code yX10_userOf cX10_userOf 7 (some .int)]
def wsX10_sendWord : List Cond := .code yX10_sendWord cX10_sendWord 7 none :: ((wsX10_sendWord_r1 ++ wsX10_sendWord_r2) ++ wsX100)
def wsX10_send_r1 : List Cond := [Cond.fieldLink RX10 104 "CommutatorModel" "words" "I", Cond.fieldLink RX10 117 "CommutatorModel" "onLine" "I", Cond.methodLink RX10 84 yX10_isIn, Cond.static yX10_isIn, Cond.initialized RX10, Cond.code yX10_isIn cX10_isIn 3 (some .boolean), Cond.methodLink RX10 107 yX10_can, Cond.instanceMethod yX10_can, Cond.selects RX10 yX10_can yX10_can, Cond.code yX10_can cX10_can 2 (some .boolean), Cond.fieldLink RX10 78 "CommutatorModel" "thrown" "I", Cond.methodLink RX10 120 yX10_sendWord, Cond.instanceMethod yX10_sendWord, Cond.selects RX10 yX10_sendWord yX10_sendWord, Cond.code yX10_sendWord cX10_sendWord 7 none, Cond.fieldLink RX10 81 "CommutatorModel" "points" "I", Cond.fieldLink RX10 19 "CommutatorModel" "samplesEach" "[I", Cond.fieldLink RX10 25 "CommutatorModel" "offset" "[I", Cond.fieldLink RX10 31 "CommutatorModel" "sending" "[I", Cond.fieldLink RX10 28 "CommutatorModel" "present" "[I", Cond.fieldLink RX10 7 "CommutatorModel" "width" "[I", Cond.fieldLink RX10 34 "CommutatorModel" "line" "[I", Cond.methodLink RX10 88 yX10_isSent, Cond.instanceMethod yX10_isSent]
def wsX10_send_r2 : List Cond := [Cond.selects RX10 yX10_isSent yX10_isSent, Cond.code yX10_isSent cX10_isSent 3 (some .boolean), Cond.fieldLink RX10 16 "CommutatorModel" "period" "[I", Cond.fieldLink RX10 22 "CommutatorModel" "phase" "[I", Cond.methodLink RX10 114 yX10_coded, Cond.instanceMethod yX10_coded, Cond.selects RX10 yX10_coded yX10_coded, Cond.code yX10_coded cX10_coded 4 (some .int), Cond.fieldLink RX10 13 "CommutatorModel" "convention" "[I", Cond.methodLink RX10 92 yX10_userOf, Cond.instanceMethod yX10_userOf, Cond.selects RX10 yX10_userOf yX10_userOf, Cond.code yX10_userOf cX10_userOf 7 (some .int)]
def wsX10_send : List Cond := .code yX10_send cX10_send 3 (some .int) :: ((wsX10_send_r1 ++ wsX10_send_r2) ++ wsX100)
def wsX10_sent : List Cond := .code yX10_sent cX10_sent 1 (some .int) :: ([.fieldLink RX10 78 "CommutatorModel" "thrown" "I", .fieldLink RX10 104 "CommutatorModel" "words" "I"] ++ wsX100)
def wsX10_onLine : List Cond := .code yX10_onLine cX10_onLine 1 (some .int) :: ([.fieldLink RX10 78 "CommutatorModel" "thrown" "I", .fieldLink RX10 117 "CommutatorModel" "onLine" "I"] ++ wsX100)
def wsX10_isBit : List Cond := .code yX10_isBit cX10_isBit 2 (some .boolean) :: ([.fieldLink RX10 117 "CommutatorModel" "onLine" "I", .methodLink RX10 84 yX10_isIn, .static yX10_isIn, .initialized RX10, .code yX10_isIn cX10_isIn 3 (some .boolean), .methodLink RX10 107 yX10_can, .instanceMethod yX10_can, .selects RX10 yX10_can yX10_can, .code yX10_can cX10_can 2 (some .boolean), .fieldLink RX10 78 "CommutatorModel" "thrown" "I"] ++ wsX100)
def wsX10_bit : List Cond := .code yX10_bit cX10_bit 2 (some .int) :: ([.fieldLink RX10 34 "CommutatorModel" "line" "[I", .methodLink RX10 123 yX10_isBit, .instanceMethod yX10_isBit, .selects RX10 yX10_isBit yX10_isBit, .initialized RX10, .code yX10_isBit cX10_isBit 2 (some .boolean), .fieldLink RX10 117 "CommutatorModel" "onLine" "I", .methodLink RX10 84 yX10_isIn, .static yX10_isIn, .code yX10_isIn cX10_isIn 3 (some .boolean), .methodLink RX10 107 yX10_can, .instanceMethod yX10_can, .selects RX10 yX10_can yX10_can, .code yX10_can cX10_can 2 (some .boolean), .fieldLink RX10 78 "CommutatorModel" "thrown" "I"] ++ wsX100)
def wsX10_flip : List Cond := .code yX10_flip cX10_flip 2 (some .int) :: ([.fieldLink RX10 34 "CommutatorModel" "line" "[I", .methodLink RX10 123 yX10_isBit, .instanceMethod yX10_isBit, .selects RX10 yX10_isBit yX10_isBit, .initialized RX10, .code yX10_isBit cX10_isBit 2 (some .boolean), .fieldLink RX10 117 "CommutatorModel" "onLine" "I", .methodLink RX10 84 yX10_isIn, .static yX10_isIn, .code yX10_isIn cX10_isIn 3 (some .boolean), .methodLink RX10 107 yX10_can, .instanceMethod yX10_can, .selects RX10 yX10_can yX10_can, .code yX10_can cX10_can 2 (some .boolean), .fieldLink RX10 78 "CommutatorModel" "thrown" "I"] ++ wsX100)
def wsX10_drop : List Cond := .code yX10_drop cX10_drop 4 none :: ([.fieldLink RX10 117 "CommutatorModel" "onLine" "I", .fieldLink RX10 34 "CommutatorModel" "line" "[I"] ++ wsX100)
def wsX10_cut : List Cond := .code yX10_cut cX10_cut 3 (some .int) :: ([.fieldLink RX10 117 "CommutatorModel" "onLine" "I", .methodLink RX10 107 yX10_can, .instanceMethod yX10_can, .selects RX10 yX10_can yX10_can, .initialized RX10, .code yX10_can cX10_can 2 (some .boolean), .fieldLink RX10 78 "CommutatorModel" "thrown" "I", .methodLink RX10 126 yX10_drop, .instanceMethod yX10_drop, .selects RX10 yX10_drop yX10_drop, .code yX10_drop cX10_drop 4 none, .fieldLink RX10 34 "CommutatorModel" "line" "[I"] ++ wsX100)
def wsX10_bits : List Cond := .code yX10_bits cX10_bits 5 (some .int) :: ([.fieldLink RX10 37 "CommutatorModel" "past" "[I"] ++ wsX100)
def wsX10_sample : List Cond := .code yX10_sample cX10_sample 4 none :: ([.fieldLink RX10 25 "CommutatorModel" "offset" "[I", .fieldLink RX10 40 "CommutatorModel" "value" "[I", .fieldLink RX10 75 "CommutatorModel" "begun" "I", .fieldLink RX10 7 "CommutatorModel" "width" "[I", .fieldLink RX10 43 "CommutatorModel" "time" "[I", .fieldLink RX10 136 "CommutatorModel" "number" "I", .fieldLink RX10 46 "CommutatorModel" "samples" "[I", .methodLink RX10 130 yX10_bits, .instanceMethod yX10_bits, .selects RX10 yX10_bits yX10_bits, .initialized RX10, .code yX10_bits cX10_bits 5 (some .int), .fieldLink RX10 37 "CommutatorModel" "past" "[I", .methodLink RX10 133 yX10_read, .instanceMethod yX10_read, .selects RX10 yX10_read yX10_read, .code yX10_read cX10_read 4 (some .int), .fieldLink RX10 13 "CommutatorModel" "convention" "[I"] ++ wsX100)
def wsX10_decodes_r1 : List Cond := [Cond.fieldLink RX10 75 "CommutatorModel" "begun" "I", Cond.fieldLink RX10 71 "CommutatorModel" "counter" "I", Cond.fieldLink RX10 139 "CommutatorModel" "repeats" "I", Cond.fieldLink RX10 81 "CommutatorModel" "points" "I", Cond.fieldLink RX10 49 "CommutatorModel" "missing" "[I", Cond.fieldLink RX10 19 "CommutatorModel" "samplesEach" "[I", Cond.fieldLink RX10 142 "CommutatorModel" "lost" "I", Cond.fieldLink RX10 136 "CommutatorModel" "number" "I", Cond.fieldLink RX10 145 "CommutatorModel" "frames" "I", Cond.methodLink RX10 130 yX10_bits, Cond.instanceMethod yX10_bits, Cond.selects RX10 yX10_bits yX10_bits, Cond.initialized RX10, Cond.code yX10_bits cX10_bits 5 (some .int), Cond.fieldLink RX10 37 "CommutatorModel" "past" "[I", Cond.methodLink RX10 88 yX10_isSent, Cond.instanceMethod yX10_isSent, Cond.selects RX10 yX10_isSent yX10_isSent, Cond.code yX10_isSent cX10_isSent 3 (some .boolean), Cond.fieldLink RX10 16 "CommutatorModel" "period" "[I", Cond.fieldLink RX10 22 "CommutatorModel" "phase" "[I", Cond.methodLink RX10 148 yX10_sample, Cond.instanceMethod yX10_sample, Cond.selects RX10 yX10_sample yX10_sample]
def wsX10_decodes_r2 : List Cond := [Cond.code yX10_sample cX10_sample 4 none, Cond.fieldLink RX10 25 "CommutatorModel" "offset" "[I", Cond.fieldLink RX10 40 "CommutatorModel" "value" "[I", Cond.fieldLink RX10 7 "CommutatorModel" "width" "[I", Cond.fieldLink RX10 43 "CommutatorModel" "time" "[I", Cond.fieldLink RX10 46 "CommutatorModel" "samples" "[I", Cond.methodLink RX10 133 yX10_read, Cond.instanceMethod yX10_read, Cond.selects RX10 yX10_read yX10_read, Cond.code yX10_read cX10_read 4 (some .int), Cond.fieldLink RX10 13 "CommutatorModel" "convention" "[I"]
def wsX10_decodes : List Cond := .code yX10_decodes cX10_decodes 5 (some .int) :: ((wsX10_decodes_r1 ++ wsX10_decodes_r2) ++ wsX100)
def wsX10_compares : List Cond := .code yX10_compares cX10_compares 3 none :: ([.fieldLink RX10 37 "CommutatorModel" "past" "[I", .fieldLink RX10 75 "CommutatorModel" "begun" "I", .fieldLink RX10 151 "CommutatorModel" "state" "I", .fieldLink RX10 154 "CommutatorModel" "matches" "I", .fieldLink RX10 157 "CommutatorModel" "misses" "I", .fieldLink RX10 160 "CommutatorModel" "isDecoded" "Z"] ++ wsX100)
def wsX10_takes_r1 : List Cond := [Cond.fieldLink RX10 37 "CommutatorModel" "past" "[I", Cond.fieldLink RX10 164 "CommutatorModel" "taken" "I", Cond.fieldLink RX10 151 "CommutatorModel" "state" "I", Cond.fieldLink RX10 154 "CommutatorModel" "matches" "I", Cond.fieldLink RX10 75 "CommutatorModel" "begun" "I", Cond.fieldLink RX10 160 "CommutatorModel" "isDecoded" "Z", Cond.methodLink RX10 130 yX10_bits, Cond.instanceMethod yX10_bits, Cond.selects RX10 yX10_bits yX10_bits, Cond.initialized RX10, Cond.code yX10_bits cX10_bits 5 (some .int), Cond.methodLink RX10 167 yX10_compares, Cond.instanceMethod yX10_compares, Cond.selects RX10 yX10_compares yX10_compares, Cond.code yX10_compares cX10_compares 3 none, Cond.fieldLink RX10 157 "CommutatorModel" "misses" "I", Cond.methodLink RX10 170 yX10_decodes, Cond.instanceMethod yX10_decodes, Cond.selects RX10 yX10_decodes yX10_decodes, Cond.code yX10_decodes cX10_decodes 5 (some .int), Cond.fieldLink RX10 71 "CommutatorModel" "counter" "I", Cond.fieldLink RX10 139 "CommutatorModel" "repeats" "I", Cond.fieldLink RX10 81 "CommutatorModel" "points" "I", Cond.fieldLink RX10 49 "CommutatorModel" "missing" "[I"]
def wsX10_takes_r2 : List Cond := [Cond.fieldLink RX10 19 "CommutatorModel" "samplesEach" "[I", Cond.fieldLink RX10 142 "CommutatorModel" "lost" "I", Cond.fieldLink RX10 136 "CommutatorModel" "number" "I", Cond.fieldLink RX10 145 "CommutatorModel" "frames" "I", Cond.methodLink RX10 88 yX10_isSent, Cond.instanceMethod yX10_isSent, Cond.selects RX10 yX10_isSent yX10_isSent, Cond.code yX10_isSent cX10_isSent 3 (some .boolean), Cond.fieldLink RX10 16 "CommutatorModel" "period" "[I", Cond.fieldLink RX10 22 "CommutatorModel" "phase" "[I", Cond.methodLink RX10 148 yX10_sample, Cond.instanceMethod yX10_sample, Cond.selects RX10 yX10_sample yX10_sample, Cond.code yX10_sample cX10_sample 4 none, Cond.fieldLink RX10 25 "CommutatorModel" "offset" "[I", Cond.fieldLink RX10 40 "CommutatorModel" "value" "[I", Cond.fieldLink RX10 7 "CommutatorModel" "width" "[I", Cond.fieldLink RX10 43 "CommutatorModel" "time" "[I", Cond.fieldLink RX10 46 "CommutatorModel" "samples" "[I", Cond.methodLink RX10 133 yX10_read, Cond.instanceMethod yX10_read, Cond.selects RX10 yX10_read yX10_read, Cond.code yX10_read cX10_read 4 (some .int), Cond.fieldLink RX10 13 "CommutatorModel" "convention" "[I"]
def wsX10_takes : List Cond := .code yX10_takes cX10_takes 2 (some .int) :: ((wsX10_takes_r1 ++ wsX10_takes_r2) ++ wsX100)
def wsX10_receive_r1 : List Cond := [Cond.fieldLink RX10 117 "CommutatorModel" "onLine" "I", Cond.fieldLink RX10 34 "CommutatorModel" "line" "[I", Cond.methodLink RX10 84 yX10_isIn, Cond.static yX10_isIn, Cond.initialized RX10, Cond.code yX10_isIn cX10_isIn 3 (some .boolean), Cond.methodLink RX10 107 yX10_can, Cond.instanceMethod yX10_can, Cond.selects RX10 yX10_can yX10_can, Cond.code yX10_can cX10_can 2 (some .boolean), Cond.fieldLink RX10 78 "CommutatorModel" "thrown" "I", Cond.methodLink RX10 174 yX10_takes, Cond.instanceMethod yX10_takes, Cond.selects RX10 yX10_takes yX10_takes, Cond.code yX10_takes cX10_takes 2 (some .int), Cond.fieldLink RX10 37 "CommutatorModel" "past" "[I", Cond.fieldLink RX10 164 "CommutatorModel" "taken" "I", Cond.fieldLink RX10 151 "CommutatorModel" "state" "I", Cond.fieldLink RX10 154 "CommutatorModel" "matches" "I", Cond.fieldLink RX10 75 "CommutatorModel" "begun" "I", Cond.fieldLink RX10 160 "CommutatorModel" "isDecoded" "Z", Cond.methodLink RX10 130 yX10_bits, Cond.instanceMethod yX10_bits, Cond.selects RX10 yX10_bits yX10_bits]
def wsX10_receive_r2 : List Cond := [Cond.code yX10_bits cX10_bits 5 (some .int), Cond.methodLink RX10 167 yX10_compares, Cond.instanceMethod yX10_compares, Cond.selects RX10 yX10_compares yX10_compares, Cond.code yX10_compares cX10_compares 3 none, Cond.fieldLink RX10 157 "CommutatorModel" "misses" "I", Cond.methodLink RX10 170 yX10_decodes, Cond.instanceMethod yX10_decodes, Cond.selects RX10 yX10_decodes yX10_decodes, Cond.code yX10_decodes cX10_decodes 5 (some .int), Cond.fieldLink RX10 71 "CommutatorModel" "counter" "I", Cond.fieldLink RX10 139 "CommutatorModel" "repeats" "I", Cond.fieldLink RX10 81 "CommutatorModel" "points" "I", Cond.fieldLink RX10 49 "CommutatorModel" "missing" "[I", Cond.fieldLink RX10 19 "CommutatorModel" "samplesEach" "[I", Cond.fieldLink RX10 142 "CommutatorModel" "lost" "I", Cond.fieldLink RX10 136 "CommutatorModel" "number" "I", Cond.fieldLink RX10 145 "CommutatorModel" "frames" "I", Cond.methodLink RX10 88 yX10_isSent, Cond.instanceMethod yX10_isSent, Cond.selects RX10 yX10_isSent yX10_isSent, Cond.code yX10_isSent cX10_isSent 3 (some .boolean), Cond.fieldLink RX10 16 "CommutatorModel" "period" "[I", Cond.fieldLink RX10 22 "CommutatorModel" "phase" "[I"]
def wsX10_receive_r3 : List Cond := [Cond.methodLink RX10 148 yX10_sample, Cond.instanceMethod yX10_sample, Cond.selects RX10 yX10_sample yX10_sample, Cond.code yX10_sample cX10_sample 4 none, Cond.fieldLink RX10 25 "CommutatorModel" "offset" "[I", Cond.fieldLink RX10 40 "CommutatorModel" "value" "[I", Cond.fieldLink RX10 7 "CommutatorModel" "width" "[I", Cond.fieldLink RX10 43 "CommutatorModel" "time" "[I", Cond.fieldLink RX10 46 "CommutatorModel" "samples" "[I", Cond.methodLink RX10 133 yX10_read, Cond.instanceMethod yX10_read, Cond.selects RX10 yX10_read yX10_read, Cond.code yX10_read cX10_read 4 (some .int), Cond.fieldLink RX10 13 "CommutatorModel" "convention" "[I", Cond.methodLink RX10 126 yX10_drop, Cond.instanceMethod yX10_drop, Cond.selects RX10 yX10_drop yX10_drop, Cond.code yX10_drop cX10_drop 4 none]
def wsX10_receive : List Cond := .code yX10_receive cX10_receive 5 (some .int) :: ((wsX10_receive_r1 ++ (wsX10_receive_r2 ++ wsX10_receive_r3)) ++ wsX100)
def wsX10_state : List Cond := .code yX10_state cX10_state 1 (some .int) :: ([.fieldLink RX10 78 "CommutatorModel" "thrown" "I", .fieldLink RX10 151 "CommutatorModel" "state" "I"] ++ wsX100)
def wsX10_taken : List Cond := .code yX10_taken cX10_taken 1 (some .int) :: ([.fieldLink RX10 78 "CommutatorModel" "thrown" "I", .fieldLink RX10 164 "CommutatorModel" "taken" "I"] ++ wsX100)
def wsX10_frames : List Cond := .code yX10_frames cX10_frames 1 (some .int) :: ([.fieldLink RX10 78 "CommutatorModel" "thrown" "I", .fieldLink RX10 145 "CommutatorModel" "frames" "I"] ++ wsX100)
def wsX10_lost : List Cond := .code yX10_lost cX10_lost 1 (some .int) :: ([.fieldLink RX10 78 "CommutatorModel" "thrown" "I", .fieldLink RX10 142 "CommutatorModel" "lost" "I"] ++ wsX100)
def wsX10_repeats : List Cond := .code yX10_repeats cX10_repeats 1 (some .int) :: ([.fieldLink RX10 78 "CommutatorModel" "thrown" "I", .fieldLink RX10 139 "CommutatorModel" "repeats" "I"] ++ wsX100)
def wsX10_number : List Cond := .code yX10_number cX10_number 1 (some .int) :: ([.fieldLink RX10 145 "CommutatorModel" "frames" "I", .fieldLink RX10 136 "CommutatorModel" "number" "I", .methodLink RX10 107 yX10_can, .instanceMethod yX10_can, .selects RX10 yX10_can yX10_can, .initialized RX10, .code yX10_can cX10_can 2 (some .boolean), .fieldLink RX10 78 "CommutatorModel" "thrown" "I"] ++ wsX100)
def wsX10_hasSample : List Cond := .code yX10_hasSample cX10_hasSample 2 (some .boolean) :: ([.fieldLink RX10 46 "CommutatorModel" "samples" "[I", .methodLink RX10 111 yX10_isPoint, .instanceMethod yX10_isPoint, .selects RX10 yX10_isPoint yX10_isPoint, .initialized RX10, .code yX10_isPoint cX10_isPoint 2 (some .boolean), .fieldLink RX10 81 "CommutatorModel" "points" "I", .methodLink RX10 84 yX10_isIn, .static yX10_isIn, .code yX10_isIn cX10_isIn 3 (some .boolean), .methodLink RX10 107 yX10_can, .instanceMethod yX10_can, .selects RX10 yX10_can yX10_can, .code yX10_can cX10_can 2 (some .boolean), .fieldLink RX10 78 "CommutatorModel" "thrown" "I"] ++ wsX100)
def wsX10_value : List Cond := .code yX10_value cX10_value 2 (some .int) :: ([.fieldLink RX10 40 "CommutatorModel" "value" "[I", .methodLink RX10 178 yX10_hasSample, .instanceMethod yX10_hasSample, .selects RX10 yX10_hasSample yX10_hasSample, .initialized RX10, .code yX10_hasSample cX10_hasSample 2 (some .boolean), .fieldLink RX10 46 "CommutatorModel" "samples" "[I", .methodLink RX10 111 yX10_isPoint, .instanceMethod yX10_isPoint, .selects RX10 yX10_isPoint yX10_isPoint, .code yX10_isPoint cX10_isPoint 2 (some .boolean), .fieldLink RX10 81 "CommutatorModel" "points" "I", .methodLink RX10 84 yX10_isIn, .static yX10_isIn, .code yX10_isIn cX10_isIn 3 (some .boolean), .methodLink RX10 107 yX10_can, .instanceMethod yX10_can, .selects RX10 yX10_can yX10_can, .code yX10_can cX10_can 2 (some .boolean), .fieldLink RX10 78 "CommutatorModel" "thrown" "I"] ++ wsX100)
def wsX10_time : List Cond := .code yX10_time cX10_time 2 (some .int) :: ([.fieldLink RX10 43 "CommutatorModel" "time" "[I", .methodLink RX10 178 yX10_hasSample, .instanceMethod yX10_hasSample, .selects RX10 yX10_hasSample yX10_hasSample, .initialized RX10, .code yX10_hasSample cX10_hasSample 2 (some .boolean), .fieldLink RX10 46 "CommutatorModel" "samples" "[I", .methodLink RX10 111 yX10_isPoint, .instanceMethod yX10_isPoint, .selects RX10 yX10_isPoint yX10_isPoint, .code yX10_isPoint cX10_isPoint 2 (some .boolean), .fieldLink RX10 81 "CommutatorModel" "points" "I", .methodLink RX10 84 yX10_isIn, .static yX10_isIn, .code yX10_isIn cX10_isIn 3 (some .boolean), .methodLink RX10 107 yX10_can, .instanceMethod yX10_can, .selects RX10 yX10_can yX10_can, .code yX10_can cX10_can 2 (some .boolean), .fieldLink RX10 78 "CommutatorModel" "thrown" "I"] ++ wsX100)
def wsX10_samples : List Cond := .code yX10_samples cX10_samples 2 (some .int) :: ([.fieldLink RX10 46 "CommutatorModel" "samples" "[I", .methodLink RX10 111 yX10_isPoint, .instanceMethod yX10_isPoint, .selects RX10 yX10_isPoint yX10_isPoint, .initialized RX10, .code yX10_isPoint cX10_isPoint 2 (some .boolean), .fieldLink RX10 81 "CommutatorModel" "points" "I", .methodLink RX10 84 yX10_isIn, .static yX10_isIn, .code yX10_isIn cX10_isIn 3 (some .boolean), .methodLink RX10 107 yX10_can, .instanceMethod yX10_can, .selects RX10 yX10_can yX10_can, .code yX10_can cX10_can 2 (some .boolean), .fieldLink RX10 78 "CommutatorModel" "thrown" "I"] ++ wsX100)
def wsX10_missing : List Cond := .code yX10_missing cX10_missing 2 (some .int) :: ([.fieldLink RX10 49 "CommutatorModel" "missing" "[I", .methodLink RX10 111 yX10_isPoint, .instanceMethod yX10_isPoint, .selects RX10 yX10_isPoint yX10_isPoint, .initialized RX10, .code yX10_isPoint cX10_isPoint 2 (some .boolean), .fieldLink RX10 81 "CommutatorModel" "points" "I", .methodLink RX10 84 yX10_isIn, .static yX10_isIn, .code yX10_isIn cX10_isIn 3 (some .boolean), .methodLink RX10 107 yX10_can, .instanceMethod yX10_can, .selects RX10 yX10_can yX10_can, .code yX10_can cX10_can 2 (some .boolean), .fieldLink RX10 78 "CommutatorModel" "thrown" "I"] ++ wsX100)
def wsX10_isOperand : List Cond := .code yX10_isOperand cX10_isOperand 1 (some .boolean) :: ([.methodLink RX10 84 yX10_isIn, .static yX10_isIn, .initialized RX10, .code yX10_isIn cX10_isIn 3 (some .boolean)])
def wsX10_comesTo : List Cond := .code yX10_comesTo cX10_comesTo 7 (some .boolean) :: ([.fieldLink RX10 52 "CommutatorModel" "operation" "[I", .fieldLink RX10 55 "CommutatorModel" "first" "[I", .fieldLink RX10 58 "CommutatorModel" "second" "[I"] ++ wsX100)
def wsX10_derive : List Cond := .code yX10_derive cX10_derive 6 none :: ([.fieldLink RX10 52 "CommutatorModel" "operation" "[I", .fieldLink RX10 55 "CommutatorModel" "first" "[I", .fieldLink RX10 58 "CommutatorModel" "second" "[I", .methodLink RX10 84 yX10_isIn, .static yX10_isIn, .initialized RX10, .code yX10_isIn cX10_isIn 3 (some .boolean), .methodLink RX10 181 yX10_isOperand, .static yX10_isOperand, .code yX10_isOperand cX10_isOperand 1 (some .boolean), .methodLink RX10 184 yX10_comesTo, .instanceMethod yX10_comesTo, .selects RX10 yX10_comesTo yX10_comesTo, .code yX10_comesTo cX10_comesTo 7 (some .boolean), .methodLink RX10 107 yX10_can, .instanceMethod yX10_can, .selects RX10 yX10_can yX10_can, .code yX10_can cX10_can 2 (some .boolean), .fieldLink RX10 78 "CommutatorModel" "thrown" "I"] ++ wsX100)
def wsX10_hasValue : List Cond := .code yX10_hasValue cX10_hasValue 2 (some .boolean) :: ([.fieldLink RX10 61 "CommutatorModel" "isKnown" "[Z", .fieldLink RX10 81 "CommutatorModel" "points" "I", .fieldLink RX10 46 "CommutatorModel" "samples" "[I"] ++ wsX100)
def wsX10_valueOf : List Cond := .code yX10_valueOf cX10_valueOf 2 (some .int) :: ([.fieldLink RX10 65 "CommutatorModel" "derived" "[I", .fieldLink RX10 40 "CommutatorModel" "value" "[I"] ++ wsX100)
def wsX10_timeOf : List Cond := .code yX10_timeOf cX10_timeOf 2 (some .int) :: ([.fieldLink RX10 68 "CommutatorModel" "derivedAt" "[I", .fieldLink RX10 43 "CommutatorModel" "time" "[I"] ++ wsX100)
def wsX10_made : List Cond := .code yX10_made cX10_made 7 (some .int) :: ([.constantLong RX10 187 (1000000), .constantLong RX10 189 (-1000000)])
def wsX10_derives_r1 : List Cond := [Cond.fieldLink RX10 61 "CommutatorModel" "isKnown" "[Z", Cond.fieldLink RX10 52 "CommutatorModel" "operation" "[I", Cond.fieldLink RX10 55 "CommutatorModel" "first" "[I", Cond.fieldLink RX10 58 "CommutatorModel" "second" "[I", Cond.fieldLink RX10 65 "CommutatorModel" "derived" "[I", Cond.fieldLink RX10 68 "CommutatorModel" "derivedAt" "[I", Cond.methodLink RX10 191 yX10_hasValue, Cond.instanceMethod yX10_hasValue, Cond.selects RX10 yX10_hasValue yX10_hasValue, Cond.initialized RX10, Cond.code yX10_hasValue cX10_hasValue 2 (some .boolean), Cond.fieldLink RX10 81 "CommutatorModel" "points" "I", Cond.fieldLink RX10 46 "CommutatorModel" "samples" "[I", Cond.methodLink RX10 194 yX10_valueOf, Cond.instanceMethod yX10_valueOf, Cond.selects RX10 yX10_valueOf yX10_valueOf, Cond.code yX10_valueOf cX10_valueOf 2 (some .int), Cond.fieldLink RX10 40 "CommutatorModel" "value" "[I", Cond.methodLink RX10 197 yX10_made, Cond.static yX10_made, Cond.code yX10_made cX10_made 7 (some .int), Cond.constantLong RX10 187 (1000000), Cond.constantLong RX10 189 (-1000000), Cond.methodLink RX10 201 yX10_timeOf]
def wsX10_derives_r2 : List Cond := [Cond.instanceMethod yX10_timeOf, Cond.selects RX10 yX10_timeOf yX10_timeOf, Cond.code yX10_timeOf cX10_timeOf 2 (some .int), Cond.fieldLink RX10 43 "CommutatorModel" "time" "[I"]
def wsX10_derives : List Cond := .code yX10_derives cX10_derives 3 none :: ((wsX10_derives_r1 ++ wsX10_derives_r2) ++ wsX100)
def wsX10_isDerived_r1 : List Cond := [Cond.fieldLink RX10 61 "CommutatorModel" "isKnown" "[Z", Cond.methodLink RX10 204 yX10_derives, Cond.instanceMethod yX10_derives, Cond.selects RX10 yX10_derives yX10_derives, Cond.initialized RX10, Cond.code yX10_derives cX10_derives 3 none, Cond.fieldLink RX10 52 "CommutatorModel" "operation" "[I", Cond.fieldLink RX10 55 "CommutatorModel" "first" "[I", Cond.fieldLink RX10 58 "CommutatorModel" "second" "[I", Cond.fieldLink RX10 65 "CommutatorModel" "derived" "[I", Cond.fieldLink RX10 68 "CommutatorModel" "derivedAt" "[I", Cond.methodLink RX10 191 yX10_hasValue, Cond.instanceMethod yX10_hasValue, Cond.selects RX10 yX10_hasValue yX10_hasValue, Cond.code yX10_hasValue cX10_hasValue 2 (some .boolean), Cond.fieldLink RX10 81 "CommutatorModel" "points" "I", Cond.fieldLink RX10 46 "CommutatorModel" "samples" "[I", Cond.methodLink RX10 194 yX10_valueOf, Cond.instanceMethod yX10_valueOf, Cond.selects RX10 yX10_valueOf yX10_valueOf, Cond.code yX10_valueOf cX10_valueOf 2 (some .int), Cond.fieldLink RX10 40 "CommutatorModel" "value" "[I", Cond.methodLink RX10 197 yX10_made, Cond.static yX10_made]
def wsX10_isDerived_r2 : List Cond := [Cond.code yX10_made cX10_made 7 (some .int), Cond.constantLong RX10 187 (1000000), Cond.constantLong RX10 189 (-1000000), Cond.methodLink RX10 201 yX10_timeOf, Cond.instanceMethod yX10_timeOf, Cond.selects RX10 yX10_timeOf yX10_timeOf, Cond.code yX10_timeOf cX10_timeOf 2 (some .int), Cond.fieldLink RX10 43 "CommutatorModel" "time" "[I", Cond.methodLink RX10 84 yX10_isIn, Cond.static yX10_isIn, Cond.code yX10_isIn cX10_isIn 3 (some .boolean), Cond.methodLink RX10 107 yX10_can, Cond.instanceMethod yX10_can, Cond.selects RX10 yX10_can yX10_can, Cond.code yX10_can cX10_can 2 (some .boolean), Cond.fieldLink RX10 78 "CommutatorModel" "thrown" "I"]
def wsX10_isDerived : List Cond := .code yX10_isDerived cX10_isDerived 2 (some .boolean) :: ((wsX10_isDerived_r1 ++ wsX10_isDerived_r2) ++ wsX100)
def wsX10_derivedValue_r1 : List Cond := [Cond.fieldLink RX10 65 "CommutatorModel" "derived" "[I", Cond.methodLink RX10 207 yX10_isDerived, Cond.instanceMethod yX10_isDerived, Cond.selects RX10 yX10_isDerived yX10_isDerived, Cond.initialized RX10, Cond.code yX10_isDerived cX10_isDerived 2 (some .boolean), Cond.fieldLink RX10 61 "CommutatorModel" "isKnown" "[Z", Cond.methodLink RX10 204 yX10_derives, Cond.instanceMethod yX10_derives, Cond.selects RX10 yX10_derives yX10_derives, Cond.code yX10_derives cX10_derives 3 none, Cond.fieldLink RX10 52 "CommutatorModel" "operation" "[I", Cond.fieldLink RX10 55 "CommutatorModel" "first" "[I", Cond.fieldLink RX10 58 "CommutatorModel" "second" "[I", Cond.fieldLink RX10 68 "CommutatorModel" "derivedAt" "[I", Cond.methodLink RX10 191 yX10_hasValue, Cond.instanceMethod yX10_hasValue, Cond.selects RX10 yX10_hasValue yX10_hasValue, Cond.code yX10_hasValue cX10_hasValue 2 (some .boolean), Cond.fieldLink RX10 81 "CommutatorModel" "points" "I", Cond.fieldLink RX10 46 "CommutatorModel" "samples" "[I", Cond.methodLink RX10 194 yX10_valueOf, Cond.instanceMethod yX10_valueOf, Cond.selects RX10 yX10_valueOf yX10_valueOf]
def wsX10_derivedValue_r2 : List Cond := [Cond.code yX10_valueOf cX10_valueOf 2 (some .int), Cond.fieldLink RX10 40 "CommutatorModel" "value" "[I", Cond.methodLink RX10 197 yX10_made, Cond.static yX10_made, Cond.code yX10_made cX10_made 7 (some .int), Cond.constantLong RX10 187 (1000000), Cond.constantLong RX10 189 (-1000000), Cond.methodLink RX10 201 yX10_timeOf, Cond.instanceMethod yX10_timeOf, Cond.selects RX10 yX10_timeOf yX10_timeOf, Cond.code yX10_timeOf cX10_timeOf 2 (some .int), Cond.fieldLink RX10 43 "CommutatorModel" "time" "[I", Cond.methodLink RX10 84 yX10_isIn, Cond.static yX10_isIn, Cond.code yX10_isIn cX10_isIn 3 (some .boolean), Cond.methodLink RX10 107 yX10_can, Cond.instanceMethod yX10_can, Cond.selects RX10 yX10_can yX10_can, Cond.code yX10_can cX10_can 2 (some .boolean), Cond.fieldLink RX10 78 "CommutatorModel" "thrown" "I"]
def wsX10_derivedValue : List Cond := .code yX10_derivedValue cX10_derivedValue 2 (some .int) :: ((wsX10_derivedValue_r1 ++ wsX10_derivedValue_r2) ++ wsX100)
def wsX10_derivedTime_r1 : List Cond := [Cond.fieldLink RX10 68 "CommutatorModel" "derivedAt" "[I", Cond.methodLink RX10 207 yX10_isDerived, Cond.instanceMethod yX10_isDerived, Cond.selects RX10 yX10_isDerived yX10_isDerived, Cond.initialized RX10, Cond.code yX10_isDerived cX10_isDerived 2 (some .boolean), Cond.fieldLink RX10 61 "CommutatorModel" "isKnown" "[Z", Cond.methodLink RX10 204 yX10_derives, Cond.instanceMethod yX10_derives, Cond.selects RX10 yX10_derives yX10_derives, Cond.code yX10_derives cX10_derives 3 none, Cond.fieldLink RX10 52 "CommutatorModel" "operation" "[I", Cond.fieldLink RX10 55 "CommutatorModel" "first" "[I", Cond.fieldLink RX10 58 "CommutatorModel" "second" "[I", Cond.fieldLink RX10 65 "CommutatorModel" "derived" "[I", Cond.methodLink RX10 191 yX10_hasValue, Cond.instanceMethod yX10_hasValue, Cond.selects RX10 yX10_hasValue yX10_hasValue, Cond.code yX10_hasValue cX10_hasValue 2 (some .boolean), Cond.fieldLink RX10 81 "CommutatorModel" "points" "I", Cond.fieldLink RX10 46 "CommutatorModel" "samples" "[I", Cond.methodLink RX10 194 yX10_valueOf, Cond.instanceMethod yX10_valueOf, Cond.selects RX10 yX10_valueOf yX10_valueOf]
def wsX10_derivedTime_r2 : List Cond := [Cond.code yX10_valueOf cX10_valueOf 2 (some .int), Cond.fieldLink RX10 40 "CommutatorModel" "value" "[I", Cond.methodLink RX10 197 yX10_made, Cond.static yX10_made, Cond.code yX10_made cX10_made 7 (some .int), Cond.constantLong RX10 187 (1000000), Cond.constantLong RX10 189 (-1000000), Cond.methodLink RX10 201 yX10_timeOf, Cond.instanceMethod yX10_timeOf, Cond.selects RX10 yX10_timeOf yX10_timeOf, Cond.code yX10_timeOf cX10_timeOf 2 (some .int), Cond.fieldLink RX10 43 "CommutatorModel" "time" "[I", Cond.methodLink RX10 84 yX10_isIn, Cond.static yX10_isIn, Cond.code yX10_isIn cX10_isIn 3 (some .boolean), Cond.methodLink RX10 107 yX10_can, Cond.instanceMethod yX10_can, Cond.selects RX10 yX10_can yX10_can, Cond.code yX10_can cX10_can 2 (some .boolean), Cond.fieldLink RX10 78 "CommutatorModel" "thrown" "I"]
def wsX10_derivedTime : List Cond := .code yX10_derivedTime cX10_derivedTime 2 (some .int) :: ((wsX10_derivedTime_r1 ++ wsX10_derivedTime_r2) ++ wsX100)
def wsX10_matchesAt : List Cond := .code yX10_matchesAt cX10_matchesAt 4 (some .int) :: ([.fieldLink RX10 164 "CommutatorModel" "taken" "I", .methodLink RX10 130 yX10_bits, .instanceMethod yX10_bits, .selects RX10 yX10_bits yX10_bits, .initialized RX10, .code yX10_bits cX10_bits 5 (some .int), .fieldLink RX10 37 "CommutatorModel" "past" "[I"] ++ wsX100)
def wsX10_matches : List Cond := .code yX10_matches cX10_matches 2 (some .int) :: ([.methodLink RX10 84 yX10_isIn, .static yX10_isIn, .initialized RX10, .code yX10_isIn cX10_isIn 3 (some .boolean), .methodLink RX10 107 yX10_can, .instanceMethod yX10_can, .selects RX10 yX10_can yX10_can, .code yX10_can cX10_can 2 (some .boolean), .fieldLink RX10 78 "CommutatorModel" "thrown" "I", .methodLink RX10 210 yX10_matchesAt, .instanceMethod yX10_matchesAt, .selects RX10 yX10_matchesAt yX10_matchesAt, .code yX10_matchesAt cX10_matchesAt 4 (some .int), .fieldLink RX10 164 "CommutatorModel" "taken" "I", .methodLink RX10 130 yX10_bits, .instanceMethod yX10_bits, .selects RX10 yX10_bits yX10_bits, .code yX10_bits cX10_bits 5 (some .int), .fieldLink RX10 37 "CommutatorModel" "past" "[I"] ++ wsX100)
def wsX10_bestOffset : List Cond := .code yX10_bestOffset cX10_bestOffset 3 (some .int) :: ([.fieldLink RX10 78 "CommutatorModel" "thrown" "I", .methodLink RX10 210 yX10_matchesAt, .instanceMethod yX10_matchesAt, .selects RX10 yX10_matchesAt yX10_matchesAt, .initialized RX10, .code yX10_matchesAt cX10_matchesAt 4 (some .int), .fieldLink RX10 164 "CommutatorModel" "taken" "I", .methodLink RX10 130 yX10_bits, .instanceMethod yX10_bits, .selects RX10 yX10_bits yX10_bits, .code yX10_bits cX10_bits 5 (some .int), .fieldLink RX10 37 "CommutatorModel" "past" "[I"] ++ wsX100)
def wsJ9_max_7cf53 : List Cond := .code yJ9_max_7cf53 cJ9_max_7cf53 2 (some .int) :: ([])
def wsJ9_max_f86c9 : List Cond := .code yJ9_max_f86c9 cJ9_max_f86c9 4 (some .long) :: ([])
def wsJ9_min_7cf53 : List Cond := .code yJ9_min_7cf53 cJ9_min_7cf53 2 (some .int) :: ([])
def wsJ9_min_f86c9 : List Cond := .code yJ9_min_f86c9 cJ9_min_f86c9 4 (some .long) :: ([])
def wsL_addPoint_r1 : List Cond := [Cond.classLink RL 13 "java/lang/IllegalArgumentException", Cond.classLink RL 15 "java/lang/IllegalStateException", Cond.methodLink RL 7 yX9_addPoint, Cond.instanceMethod yX9_addPoint, Cond.selects RX9 yX9_addPoint yX9_addPoint, Cond.initialized RX9, Cond.code yX9_addPoint cX9_addPoint 5 (some .int), Cond.classLink RX9 55 "java/lang/IllegalArgumentException", Cond.initialized "java/lang/IllegalArgumentException", Cond.classLink RX9 65 "java/lang/IllegalStateException", Cond.initialized "java/lang/IllegalStateException", Cond.fieldLink RX9 26 "Commutator" "sender" "LCommutator$Sender;", Cond.fieldLink RX9 10 "Commutator" "table" "LCommutator$PointTable;", Cond.methodLink RX9 51 yX9_isPointAllowed, Cond.static yX9_isPointAllowed, Cond.code yX9_isPointAllowed cX9_isPointAllowed 5 (some .boolean), Cond.methodLink RX9 62 yX5_add, Cond.instanceMethod yX5_add, Cond.selects RX5 yX5_add yX5_add, Cond.initialized RX5, Cond.code yX5_add cX5_add 10 (some .boolean), Cond.fieldLink RX5 21 "Commutator$PointTable" "count" "I", Cond.fieldLink RX5 11 "Commutator$PointTable" "rows" "[LCommutator$Point;", Cond.classLink RX5 9 RX4]
def wsL_addPoint_r2 : List Cond := [Cond.instantiable RX4 10, Cond.initialized RX4, Cond.methodLink RX5 25 yX5_bitsAt, Cond.static yX5_bitsAt, Cond.code yX5_bitsAt cX5_bitsAt 5 (some .long), Cond.methodLink RX5 29 yX5_isFree, Cond.instanceMethod yX5_isFree, Cond.selects RX5 yX5_isFree yX5_isFree, Cond.code yX5_isFree cX5_isFree 6 (some .boolean), Cond.fieldLink RX5 17 "Commutator$PointTable" "usedBits" "[J", Cond.methodLink RX5 33 yX5_use, Cond.instanceMethod yX5_use, Cond.selects RX5 yX5_use yX5_use, Cond.code yX5_use cX5_use 6 none, Cond.methodLink RX5 37 yX4_init, Cond.instanceMethod yX4_init, Cond.code yX4_init cX4_init 7 none, Cond.methodLink RX4 3 objectInit, Cond.instanceMethod objectInit, Cond.code objectInit ⟨#[0xb1]⟩ 1 none, Cond.fieldLink RX4 9 "Commutator$Point" "width" "I", Cond.fieldLink RX4 15 "Commutator$Point" "convention" "I", Cond.fieldLink RX4 18 "Commutator$Point" "period" "I", Cond.fieldLink RX4 21 "Commutator$Point" "twice" "Z"]
def wsL_addPoint_r3 : List Cond := [Cond.fieldLink RX4 25 "Commutator$Point" "phase" "I", Cond.fieldLink RX4 28 "Commutator$Point" "offset" "I", Cond.classLink RX4 31 RX6, Cond.instantiable RX6 3, Cond.initialized RX6, Cond.fieldLink RX4 34 "Commutator$Point" "latest" "LCommutator$Reading;", Cond.instanceMethod yX6_init, Cond.code yX6_init cX6_init 1 none, Cond.methodLink RX6 1 objectInit]
def wsL_addPoint : List Cond := .codeWith yL_addPoint cL_addPoint 7 (some .int) [(0, 14, 17, 13), (0, 14, 21, 15)] :: ((wsL_addPoint_r1 ++ (wsL_addPoint_r2 ++ wsL_addPoint_r3)) ++ wsX90 ++ wsX70 ++ wsX50 ++ wsX40 ++ wsX60 ++ (vx_at0 RX9 57 "java/lang/IllegalArgumentException" ["java/lang/RuntimeException", "java/lang/Exception"]).filter goodWord ++ (vx_at0 RX9 67 "java/lang/IllegalStateException" ["java/lang/RuntimeException", "java/lang/Exception"]).filter goodWord)
def wsL_place : List Cond := .codeWith yL_place cL_place 4 (some .int) [(0, 9, 12, 21)] :: ([.classLink RL 21 "java/lang/IndexOutOfBoundsException", .methodLink RL 17 yX9_place, .instanceMethod yX9_place, .selects RX9 yX9_place yX9_place, .initialized RX9, .code yX9_place cX9_place 3 (some .int), .methodLink RX9 71 yX9_existingPoint, .instanceMethod yX9_existingPoint, .selects RX9 yX9_existingPoint yX9_existingPoint, .code yX9_existingPoint cX9_existingPoint 3 (some (.object "Commutator$Point")), .classLink RX9 107 "java/lang/IndexOutOfBoundsException", .initialized "java/lang/IndexOutOfBoundsException", .fieldLink RX9 10 "Commutator" "table" "LCommutator$PointTable;", .methodLink RX9 202 yX5_at, .instanceMethod yX5_at, .selects RX5 yX5_at yX5_at, .initialized RX5, .code yX5_at cX5_at 2 (some (.object "Commutator$Point")), .fieldLink RX5 21 "Commutator$PointTable" "count" "I", .fieldLink RX5 11 "Commutator$PointTable" "rows" "[LCommutator$Point;"] ++ wsX40 ++ wsX90 ++ wsX50 ++ (vx_at0 RX9 109 "java/lang/IndexOutOfBoundsException" ["java/lang/RuntimeException", "java/lang/Exception"]).filter goodWord)
def wsL_put_r1 : List Cond := [Cond.classLink RL 21 "java/lang/IndexOutOfBoundsException", Cond.classLink RL 13 "java/lang/IllegalArgumentException", Cond.methodLink RL 23 yX9_put, Cond.instanceMethod yX9_put, Cond.selects RX9 yX9_put yX9_put, Cond.initialized RX9, Cond.code yX9_put cX9_put 5 (some .int), Cond.classLink RX9 55 "java/lang/IllegalArgumentException", Cond.initialized "java/lang/IllegalArgumentException", Cond.methodLink RX9 71 yX9_existingPoint, Cond.instanceMethod yX9_existingPoint, Cond.selects RX9 yX9_existingPoint yX9_existingPoint, Cond.code yX9_existingPoint cX9_existingPoint 3 (some (.object "Commutator$Point")), Cond.classLink RX9 107 "java/lang/IndexOutOfBoundsException", Cond.initialized "java/lang/IndexOutOfBoundsException", Cond.fieldLink RX9 10 "Commutator" "table" "LCommutator$PointTable;", Cond.methodLink RX9 202 yX5_at, Cond.instanceMethod yX5_at, Cond.selects RX5 yX5_at yX5_at, Cond.initialized RX5, Cond.code yX5_at cX5_at 2 (some (.object "Commutator$Point")), Cond.fieldLink RX5 21 "Commutator$PointTable" "count" "I", Cond.fieldLink RX5 11 "Commutator$PointTable" "rows" "[LCommutator$Point;", Cond.methodLink RX9 87 yX4_lowest]
def wsL_put_r2 : List Cond := [Cond.instanceMethod yX4_lowest, Cond.selects RX4 yX4_lowest yX4_lowest, Cond.initialized RX4, Cond.code yX4_lowest cX4_lowest 1 (some .int), Cond.fieldLink RX4 15 "Commutator$Point" "convention" "I", Cond.methodLink RX4 38 yX4_signWeight, Cond.instanceMethod yX4_signWeight, Cond.selects RX4 yX4_signWeight yX4_signWeight, Cond.code yX4_signWeight cX4_signWeight 1 (some .int), Cond.fieldLink RX4 9 "Commutator$Point" "width" "I", Cond.methodLink RX9 90 yX4_highest, Cond.instanceMethod yX4_highest, Cond.selects RX4 yX4_highest yX4_highest, Cond.code yX4_highest cX4_highest 1 (some .int)]
def wsL_put : List Cond := .codeWith yL_put cL_put 5 (some .int) [(0, 10, 13, 21), (0, 10, 17, 13)] :: ((wsL_put_r1 ++ wsL_put_r2) ++ wsX40 ++ wsX90 ++ wsX50 ++ (vx_at0 RX9 57 "java/lang/IllegalArgumentException" ["java/lang/RuntimeException", "java/lang/Exception"]).filter goodWord ++ (vx_at0 RX9 109 "java/lang/IndexOutOfBoundsException" ["java/lang/RuntimeException", "java/lang/Exception"]).filter goodWord)
def wsL_send_r1 : List Cond := [Cond.classLink RL 13 "java/lang/IllegalArgumentException", Cond.classLink RL 15 "java/lang/IllegalStateException", Cond.methodLink RL 27 yX9_send, Cond.instanceMethod yX9_send, Cond.selects RX9 yX9_send yX9_send, Cond.initialized RX9, Cond.code yX9_send cX9_send 3 (some .int), Cond.classLink RX9 55 "java/lang/IllegalArgumentException", Cond.initialized "java/lang/IllegalArgumentException", Cond.classLink RX9 65 "java/lang/IllegalStateException", Cond.initialized "java/lang/IllegalStateException", Cond.fieldLink RX9 26 "Commutator" "sender" "LCommutator$Sender;", Cond.fieldLink RX9 10 "Commutator" "table" "LCommutator$PointTable;", Cond.fieldLink RX9 19 "Commutator" "line" "LCommutator$Line;", Cond.methodLink RX9 96 yX7_sendWord, Cond.instanceMethod yX7_sendWord, Cond.selects RX7 yX7_sendWord yX7_sendWord, Cond.initialized RX7, Cond.code yX7_sendWord cX7_sendWord 7 none, Cond.fieldLink RX7 9 "Commutator$Sender" "wordsSent" "I", Cond.constant RX7 15 (47104), Cond.fieldLink RX7 16 "Commutator$Sender" "frame" "J", Cond.methodLink RX7 20 yX7_packSamples, Cond.instanceMethod yX7_packSamples]
def wsL_send_r2 : List Cond := [Cond.selects RX7 yX7_packSamples yX7_packSamples, Cond.code yX7_packSamples cX7_packSamples 7 none, Cond.methodLink RX7 35 yX5_at, Cond.instanceMethod yX5_at, Cond.selects RX5 yX5_at yX5_at, Cond.initialized RX5, Cond.code yX5_at cX5_at 2 (some (.object "Commutator$Point")), Cond.fieldLink RX5 21 "Commutator$PointTable" "count" "I", Cond.fieldLink RX5 11 "Commutator$PointTable" "rows" "[LCommutator$Point;", Cond.methodLink RX7 39 yX4_isSentIn, Cond.instanceMethod yX4_isSentIn, Cond.selects RX4 yX4_isSentIn yX4_isSentIn, Cond.initialized RX4, Cond.code yX4_isSentIn cX4_isSentIn 2 (some .boolean), Cond.fieldLink RX4 18 "Commutator$Point" "period" "I", Cond.fieldLink RX4 25 "Commutator$Point" "phase" "I", Cond.methodLink RX7 45 yX4_samplesInFrame, Cond.instanceMethod yX4_samplesInFrame, Cond.selects RX4 yX4_samplesInFrame yX4_samplesInFrame, Cond.code yX4_samplesInFrame cX4_samplesInFrame 1 (some .int), Cond.fieldLink RX4 21 "Commutator$Point" "twice" "Z", Cond.methodLink RX7 49 yX4_firstBit, Cond.instanceMethod yX4_firstBit, Cond.selects RX4 yX4_firstBit yX4_firstBit]
def wsL_send_r3 : List Cond := [Cond.code yX4_firstBit cX4_firstBit 2 (some .int), Cond.fieldLink RX4 28 "Commutator$Point" "offset" "I", Cond.methodLink RX7 56 yX4_encode, Cond.instanceMethod yX4_encode, Cond.selects RX4 yX4_encode yX4_encode, Cond.code yX4_encode cX4_encode 2 (some .int), Cond.fieldLink RX4 15 "Commutator$Point" "convention" "I", Cond.fieldLink RX4 9 "Commutator$Point" "width" "I", Cond.methodLink RX4 38 yX4_signWeight, Cond.instanceMethod yX4_signWeight, Cond.selects RX4 yX4_signWeight yX4_signWeight, Cond.code yX4_signWeight cX4_signWeight 1 (some .int), Cond.methodLink RX7 59 yX4_shift, Cond.instanceMethod yX4_shift, Cond.selects RX4 yX4_shift yX4_shift, Cond.code yX4_shift cX4_shift 2 (some .int), Cond.methodLink RX4 42 yX4_firstBit, Cond.methodLink RX7 24 yX3_append, Cond.instanceMethod yX3_append, Cond.selects RX3 yX3_append yX3_append, Cond.initialized RX3, Cond.code yX3_append cX3_append 2 none, Cond.fieldLink RX3 15 "Commutator$Line" "end" "I", Cond.fieldLink RX3 9 "Commutator$Line" "bits" "[I"]
def wsL_send_r4 : List Cond := [Cond.methodLink RX9 100 yX3_length, Cond.instanceMethod yX3_length, Cond.selects RX3 yX3_length yX3_length, Cond.code yX3_length cX3_length 1 (some .int), Cond.fieldLink RX3 19 "Commutator$Line" "head" "I"]
def wsL_send : List Cond := .codeWith yL_send cL_send 4 (some .int) [(0, 9, 12, 13), (0, 9, 15, 15)] :: ((wsL_send_r1 ++ (wsL_send_r2 ++ (wsL_send_r3 ++ wsL_send_r4))) ++ wsX90 ++ wsX70 ++ wsX50 ++ wsX40 ++ wsX30 ++ (vx_at0 RX9 57 "java/lang/IllegalArgumentException" ["java/lang/RuntimeException", "java/lang/Exception"]).filter goodWord ++ (vx_at0 RX9 67 "java/lang/IllegalStateException" ["java/lang/RuntimeException", "java/lang/Exception"]).filter goodWord)
def wsL_bit_r1 : List Cond := [Cond.classLink RL 21 "java/lang/IndexOutOfBoundsException", Cond.methodLink RL 30 yX9_bit, Cond.instanceMethod yX9_bit, Cond.selects RX9 yX9_bit yX9_bit, Cond.initialized RX9, Cond.code yX9_bit cX9_bit 2 (some .int), Cond.classLink RX9 107 "java/lang/IndexOutOfBoundsException", Cond.initialized "java/lang/IndexOutOfBoundsException", Cond.fieldLink RX9 19 "Commutator" "line" "LCommutator$Line;", Cond.methodLink RX9 103 yX3_holds, Cond.instanceMethod yX3_holds, Cond.selects RX3 yX3_holds yX3_holds, Cond.initialized RX3, Cond.code yX3_holds cX3_holds 3 (some .boolean), Cond.methodLink RX3 22 yX3_length, Cond.instanceMethod yX3_length, Cond.selects RX3 yX3_length yX3_length, Cond.code yX3_length cX3_length 1 (some .int), Cond.fieldLink RX3 15 "Commutator$Line" "end" "I", Cond.fieldLink RX3 19 "Commutator$Line" "head" "I", Cond.methodLink RX9 110 yX3_look, Cond.instanceMethod yX3_look, Cond.selects RX3 yX3_look yX3_look, Cond.code yX3_look cX3_look 2 (some .int)]
def wsL_bit_r2 : List Cond := [Cond.fieldLink RX3 9 "Commutator$Line" "bits" "[I", Cond.methodLink RX3 26 yX3_holds]
def wsL_bit : List Cond := .codeWith yL_bit cL_bit 4 (some .int) [(0, 9, 12, 21)] :: ((wsL_bit_r1 ++ wsL_bit_r2) ++ wsX90 ++ wsX30 ++ (vx_at0 RX9 109 "java/lang/IndexOutOfBoundsException" ["java/lang/RuntimeException", "java/lang/Exception"]).filter goodWord)
def wsL_flip_r1 : List Cond := [Cond.classLink RL 21 "java/lang/IndexOutOfBoundsException", Cond.methodLink RL 33 yX9_flip, Cond.instanceMethod yX9_flip, Cond.selects RX9 yX9_flip yX9_flip, Cond.initialized RX9, Cond.code yX9_flip cX9_flip 2 (some .int), Cond.classLink RX9 107 "java/lang/IndexOutOfBoundsException", Cond.initialized "java/lang/IndexOutOfBoundsException", Cond.fieldLink RX9 19 "Commutator" "line" "LCommutator$Line;", Cond.methodLink RX9 103 yX3_holds, Cond.instanceMethod yX3_holds, Cond.selects RX3 yX3_holds yX3_holds, Cond.initialized RX3, Cond.code yX3_holds cX3_holds 3 (some .boolean), Cond.methodLink RX3 22 yX3_length, Cond.instanceMethod yX3_length, Cond.selects RX3 yX3_length yX3_length, Cond.code yX3_length cX3_length 1 (some .int), Cond.fieldLink RX3 15 "Commutator$Line" "end" "I", Cond.fieldLink RX3 19 "Commutator$Line" "head" "I", Cond.methodLink RX9 114 yX3_turnOver, Cond.instanceMethod yX3_turnOver, Cond.selects RX3 yX3_turnOver yX3_turnOver, Cond.code yX3_turnOver cX3_turnOver 2 (some .int)]
def wsL_flip_r2 : List Cond := [Cond.fieldLink RX3 9 "Commutator$Line" "bits" "[I", Cond.methodLink RX3 26 yX3_holds]
def wsL_flip : List Cond := .codeWith yL_flip cL_flip 4 (some .int) [(0, 9, 12, 21)] :: ((wsL_flip_r1 ++ wsL_flip_r2) ++ wsX90 ++ wsX30 ++ (vx_at0 RX9 109 "java/lang/IndexOutOfBoundsException" ["java/lang/RuntimeException", "java/lang/Exception"]).filter goodWord)
def wsL_cut_r1 : List Cond := [Cond.classLink RL 13 "java/lang/IllegalArgumentException", Cond.classLink RL 21 "java/lang/IndexOutOfBoundsException", Cond.methodLink RL 36 yX9_cut, Cond.instanceMethod yX9_cut, Cond.selects RX9 yX9_cut yX9_cut, Cond.initialized RX9, Cond.code yX9_cut cX9_cut 3 (some .int), Cond.classLink RX9 55 "java/lang/IllegalArgumentException", Cond.initialized "java/lang/IllegalArgumentException", Cond.classLink RX9 107 "java/lang/IndexOutOfBoundsException", Cond.initialized "java/lang/IndexOutOfBoundsException", Cond.fieldLink RX9 19 "Commutator" "line" "LCommutator$Line;", Cond.methodLink RX9 103 yX3_holds, Cond.instanceMethod yX3_holds, Cond.selects RX3 yX3_holds yX3_holds, Cond.initialized RX3, Cond.code yX3_holds cX3_holds 3 (some .boolean), Cond.methodLink RX3 22 yX3_length, Cond.instanceMethod yX3_length, Cond.selects RX3 yX3_length yX3_length, Cond.code yX3_length cX3_length 1 (some .int), Cond.fieldLink RX3 15 "Commutator$Line" "end" "I", Cond.fieldLink RX3 19 "Commutator$Line" "head" "I", Cond.methodLink RX9 117 yX3_remove]
def wsL_cut_r2 : List Cond := [Cond.instanceMethod yX3_remove, Cond.selects RX3 yX3_remove yX3_remove, Cond.code yX3_remove cX3_remove 4 none, Cond.fieldLink RX3 9 "Commutator$Line" "bits" "[I", Cond.methodLink RX3 30 arraycopyName, Cond.native arraycopyName, Cond.static arraycopyName, Cond.initialized "java/lang/System", Cond.methodLink RX3 26 yX3_holds, Cond.methodLink RX9 100 yX3_length]
def wsL_cut : List Cond := .codeWith yL_cut cL_cut 5 (some .int) [(0, 10, 13, 13), (0, 10, 17, 21)] :: ((wsL_cut_r1 ++ wsL_cut_r2) ++ wsX90 ++ wsX30 ++ (vx_at0 RX9 57 "java/lang/IllegalArgumentException" ["java/lang/RuntimeException", "java/lang/Exception"]).filter goodWord ++ (vx_at0 RX9 109 "java/lang/IndexOutOfBoundsException" ["java/lang/RuntimeException", "java/lang/Exception"]).filter goodWord)
def wsL_receive_r1 : List Cond := [Cond.classLink RL 13 "java/lang/IllegalArgumentException", Cond.methodLink RL 39 yX9_receive, Cond.instanceMethod yX9_receive, Cond.selects RX9 yX9_receive yX9_receive, Cond.initialized RX9, Cond.code yX9_receive cX9_receive 5 (some .int), Cond.classLink RX9 55 "java/lang/IllegalArgumentException", Cond.initialized "java/lang/IllegalArgumentException", Cond.fieldLink RX9 40 "Commutator" "decoder" "LCommutator$Decoder;", Cond.fieldLink RX9 19 "Commutator" "line" "LCommutator$Line;", Cond.methodLink RX9 124 Lib.Math.min.name, Cond.static Lib.Math.min.name, Cond.initialized "java/lang/Math", Cond.code Lib.Math.min.name Lib.Math.min.code 2 (some .int), Cond.fieldLink RX9 33 "Commutator" "synchroniser" "LCommutator$Synchroniser;", Cond.fieldLink RX9 10 "Commutator" "table" "LCommutator$PointTable;", Cond.methodLink RX9 100 yX3_length, Cond.instanceMethod yX3_length, Cond.selects RX3 yX3_length yX3_length, Cond.initialized RX3, Cond.code yX3_length cX3_length 1 (some .int), Cond.fieldLink RX3 15 "Commutator$Line" "end" "I", Cond.fieldLink RX3 19 "Commutator$Line" "head" "I", Cond.methodLink RX9 130 yX3_takeFirst]
def wsL_receive_r2 : List Cond := [Cond.instanceMethod yX3_takeFirst, Cond.selects RX3 yX3_takeFirst yX3_takeFirst, Cond.code yX3_takeFirst cX3_takeFirst 2 (some .int), Cond.fieldLink RX3 9 "Commutator$Line" "bits" "[I", Cond.methodLink RX3 26 yX3_holds, Cond.instanceMethod yX3_holds, Cond.selects RX3 yX3_holds yX3_holds, Cond.code yX3_holds cX3_holds 3 (some .boolean), Cond.methodLink RX3 22 yX3_length, Cond.methodLink RX9 133 yX8_take, Cond.instanceMethod yX8_take, Cond.selects RX8 yX8_take yX8_take, Cond.initialized RX8, Cond.code yX8_take cX8_take 2 (some .boolean), Cond.fieldLink RX8 19 "Commutator$Synchroniser" "latest" "J", Cond.fieldLink RX8 23 "Commutator$Synchroniser" "takenBits" "I", Cond.fieldLink RX8 15 "Commutator$Synchroniser" "syncWords" "[I", Cond.fieldLink RX8 9 "Commutator$Synchroniser" "mode" "I", Cond.fieldLink RX8 33 "Commutator$Synchroniser" "bitsOfFrame" "I", Cond.methodLink RX8 26 yX8_isSyncWord, Cond.instanceMethod yX8_isSyncWord, Cond.selects RX8 yX8_isSyncWord yX8_isSyncWord, Cond.code yX8_isSyncWord cX8_isSyncWord 1 (some .boolean), Cond.methodLink RX8 39 yX8_latestWord]
def wsL_receive_r3 : List Cond := [Cond.instanceMethod yX8_latestWord, Cond.selects RX8 yX8_latestWord yX8_latestWord, Cond.code yX8_latestWord cX8_latestWord 1 (some .int), Cond.methodLink RX8 30 yX8_search, Cond.instanceMethod yX8_search, Cond.selects RX8 yX8_search yX8_search, Cond.code yX8_search cX8_search 1 none, Cond.fieldLink RX8 43 "Commutator$Synchroniser" "matchCount" "I", Cond.methodLink RX8 36 yX8_judgeSyncWord, Cond.instanceMethod yX8_judgeSyncWord, Cond.selects RX8 yX8_judgeSyncWord yX8_judgeSyncWord, Cond.code yX8_judgeSyncWord cX8_judgeSyncWord 1 none, Cond.methodLink RX8 46 yX8_check, Cond.instanceMethod yX8_check, Cond.selects RX8 yX8_check yX8_check, Cond.code yX8_check cX8_check 1 none, Cond.fieldLink RX8 52 "Commutator$Synchroniser" "missCount" "I", Cond.methodLink RX8 49 yX8_keepLock, Cond.instanceMethod yX8_keepLock, Cond.selects RX8 yX8_keepLock yX8_keepLock, Cond.code yX8_keepLock cX8_keepLock 1 none, Cond.methodLink RX8 55 yJ6_bitCount_0f7a4, Cond.static yJ6_bitCount_0f7a4, Cond.initialized RJ6]
def wsL_receive_r4 : List Cond := [Cond.code yJ6_bitCount_0f7a4 cJ6_bitCount_0f7a4 1 (some .int), Cond.constant RJ6 265 (1431655765), Cond.constant RJ6 266 (858993459), Cond.constant RJ6 267 (252645135), Cond.methodLink RX9 141 yX0_decode, Cond.instanceMethod yX0_decode, Cond.selects RX0 yX0_decode yX0_decode, Cond.initialized RX0, Cond.code yX0_decode cX0_decode 6 none, Cond.fieldLink RX0 9 "Commutator$Decoder" "usedFrames" "I", Cond.fieldLink RX0 15 "Commutator$Decoder" "latestNumber" "I", Cond.fieldLink RX0 18 "Commutator$Decoder" "latestCounter" "I", Cond.fieldLink RX0 21 "Commutator$Decoder" "repeatedFrames" "I", Cond.methodLink RX0 24 yX0_noteLost, Cond.instanceMethod yX0_noteLost, Cond.selects RX0 yX0_noteLost yX0_noteLost, Cond.code yX0_noteLost cX0_noteLost 6 none, Cond.fieldLink RX0 32 "Commutator$Decoder" "lostFrames" "I", Cond.methodLink RX0 40 yX5_at, Cond.instanceMethod yX5_at, Cond.selects RX5 yX5_at yX5_at, Cond.initialized RX5, Cond.code yX5_at cX5_at 2 (some (.object "Commutator$Point")), Cond.fieldLink RX5 21 "Commutator$PointTable" "count" "I"]
def wsL_receive_r5 : List Cond := [Cond.fieldLink RX5 11 "Commutator$PointTable" "rows" "[LCommutator$Point;", Cond.methodLink RX0 44 yX4_isSentIn, Cond.instanceMethod yX4_isSentIn, Cond.selects RX4 yX4_isSentIn yX4_isSentIn, Cond.initialized RX4, Cond.code yX4_isSentIn cX4_isSentIn 2 (some .boolean), Cond.fieldLink RX4 18 "Commutator$Point" "period" "I", Cond.fieldLink RX4 25 "Commutator$Point" "phase" "I", Cond.methodLink RX0 50 yX4_noteMissing, Cond.instanceMethod yX4_noteMissing, Cond.selects RX4 yX4_noteMissing yX4_noteMissing, Cond.code yX4_noteMissing cX4_noteMissing 1 none, Cond.fieldLink RX4 62 "Commutator$Point" "missingCount" "I", Cond.methodLink RX4 46 yX4_samplesInFrame, Cond.instanceMethod yX4_samplesInFrame, Cond.selects RX4 yX4_samplesInFrame yX4_samplesInFrame, Cond.code yX4_samplesInFrame cX4_samplesInFrame 1 (some .int), Cond.fieldLink RX4 21 "Commutator$Point" "twice" "Z", Cond.methodLink RX0 28 yX0_giveSamples, Cond.instanceMethod yX0_giveSamples, Cond.selects RX0 yX0_giveSamples yX0_giveSamples, Cond.code yX0_giveSamples cX0_giveSamples 6 none, Cond.methodLink RX0 53 yX4_readFrom, Cond.instanceMethod yX4_readFrom]
def wsL_receive_r6 : List Cond := [Cond.selects RX4 yX4_readFrom yX4_readFrom, Cond.code yX4_readFrom cX4_readFrom 6 none, Cond.fieldLink RX4 9 "Commutator$Point" "width" "I", Cond.fieldLink RX4 34 "Commutator$Point" "latest" "LCommutator$Reading;", Cond.fieldLink RX4 59 "Commutator$Point" "sampleCount" "I", Cond.methodLink RX4 49 yX4_shift, Cond.instanceMethod yX4_shift, Cond.selects RX4 yX4_shift yX4_shift, Cond.code yX4_shift cX4_shift 2 (some .int), Cond.methodLink RX4 42 yX4_firstBit, Cond.instanceMethod yX4_firstBit, Cond.selects RX4 yX4_firstBit yX4_firstBit, Cond.code yX4_firstBit cX4_firstBit 2 (some .int), Cond.fieldLink RX4 28 "Commutator$Point" "offset" "I", Cond.methodLink RX4 52 yX4_decode, Cond.instanceMethod yX4_decode, Cond.selects RX4 yX4_decode yX4_decode, Cond.code yX4_decode cX4_decode 3 (some .int), Cond.fieldLink RX4 15 "Commutator$Point" "convention" "I", Cond.methodLink RX4 38 yX4_signWeight, Cond.instanceMethod yX4_signWeight, Cond.selects RX4 yX4_signWeight yX4_signWeight, Cond.code yX4_signWeight cX4_signWeight 1 (some .int), Cond.methodLink RX4 55 yX6_set]
def wsL_receive_r7 : List Cond := [Cond.instanceMethod yX6_set, Cond.selects RX6 yX6_set yX6_set, Cond.initialized RX6, Cond.code yX6_set cX6_set 3 none, Cond.fieldLink RX6 7 "Commutator$Reading" "known" "Z", Cond.fieldLink RX6 13 "Commutator$Reading" "amount" "I", Cond.fieldLink RX6 17 "Commutator$Reading" "moment" "I"]
def wsL_receive : List Cond := .codeWith yL_receive cL_receive 4 (some .int) [(0, 9, 12, 13)] :: ((wsL_receive_r1 ++ (wsL_receive_r2 ++ (wsL_receive_r3 ++ (wsL_receive_r4 ++ (wsL_receive_r5 ++ (wsL_receive_r6 ++ wsL_receive_r7)))))) ++ wsX90 ++ wsX00 ++ wsX80 ++ wsX30 ++ wsX50 ++ wsX40 ++ wsX60 ++ (vx_at0 RX9 57 "java/lang/IllegalArgumentException" ["java/lang/RuntimeException", "java/lang/Exception"]).filter goodWord)
def wsL_number : List Cond := .codeWith yL_number cL_number 3 (some .int) [(0, 8, 11, 46)] :: ([.classLink RL 46 "java/util/NoSuchElementException", .methodLink RL 42 yX9_number, .instanceMethod yX9_number, .selects RX9 yX9_number yX9_number, .initialized RX9, .code yX9_number cX9_number 1 (some .int), .classLink RX9 157 "java/util/NoSuchElementException", .initialized "java/util/NoSuchElementException", .fieldLink RX9 40 "Commutator" "decoder" "LCommutator$Decoder;"] ++ wsX90 ++ wsX00 ++ (vx_at0 RX9 159 "java/util/NoSuchElementException" ["java/lang/RuntimeException", "java/lang/Exception"]).filter goodWord)
def wsL_value_r1 : List Cond := [Cond.classLink RL 21 "java/lang/IndexOutOfBoundsException", Cond.classLink RL 46 "java/util/NoSuchElementException", Cond.methodLink RL 48 yX9_value, Cond.instanceMethod yX9_value, Cond.selects RX9 yX9_value yX9_value, Cond.initialized RX9, Cond.code yX9_value cX9_value 2 (some .int), Cond.methodLink RX9 71 yX9_existingPoint, Cond.instanceMethod yX9_existingPoint, Cond.selects RX9 yX9_existingPoint yX9_existingPoint, Cond.code yX9_existingPoint cX9_existingPoint 3 (some (.object "Commutator$Point")), Cond.classLink RX9 107 "java/lang/IndexOutOfBoundsException", Cond.initialized "java/lang/IndexOutOfBoundsException", Cond.fieldLink RX9 10 "Commutator" "table" "LCommutator$PointTable;", Cond.methodLink RX9 202 yX5_at, Cond.instanceMethod yX5_at, Cond.selects RX5 yX5_at yX5_at, Cond.initialized RX5, Cond.code yX5_at cX5_at 2 (some (.object "Commutator$Point")), Cond.fieldLink RX5 21 "Commutator$PointTable" "count" "I", Cond.fieldLink RX5 11 "Commutator$PointTable" "rows" "[LCommutator$Point;", Cond.methodLink RX9 163 yX9_latestOf, Cond.static yX9_latestOf, Cond.code yX9_latestOf cX9_latestOf 1 (some (.object "Commutator$Reading"))]
def wsL_value_r2 : List Cond := [Cond.classLink RX9 157 "java/util/NoSuchElementException", Cond.initialized "java/util/NoSuchElementException"]
def wsL_value : List Cond := .codeWith yL_value cL_value 4 (some .int) [(0, 9, 12, 21), (0, 9, 15, 46)] :: ((wsL_value_r1 ++ wsL_value_r2) ++ wsX60 ++ wsX90 ++ wsX50 ++ wsX40 ++ (vx_at0 RX9 109 "java/lang/IndexOutOfBoundsException" ["java/lang/RuntimeException", "java/lang/Exception"]).filter goodWord ++ (vx_at0 RX9 159 "java/util/NoSuchElementException" ["java/lang/RuntimeException", "java/lang/Exception"]).filter goodWord)
def wsL_time_r1 : List Cond := [Cond.classLink RL 21 "java/lang/IndexOutOfBoundsException", Cond.classLink RL 46 "java/util/NoSuchElementException", Cond.methodLink RL 51 yX9_time, Cond.instanceMethod yX9_time, Cond.selects RX9 yX9_time yX9_time, Cond.initialized RX9, Cond.code yX9_time cX9_time 2 (some .int), Cond.methodLink RX9 71 yX9_existingPoint, Cond.instanceMethod yX9_existingPoint, Cond.selects RX9 yX9_existingPoint yX9_existingPoint, Cond.code yX9_existingPoint cX9_existingPoint 3 (some (.object "Commutator$Point")), Cond.classLink RX9 107 "java/lang/IndexOutOfBoundsException", Cond.initialized "java/lang/IndexOutOfBoundsException", Cond.fieldLink RX9 10 "Commutator" "table" "LCommutator$PointTable;", Cond.methodLink RX9 202 yX5_at, Cond.instanceMethod yX5_at, Cond.selects RX5 yX5_at yX5_at, Cond.initialized RX5, Cond.code yX5_at cX5_at 2 (some (.object "Commutator$Point")), Cond.fieldLink RX5 21 "Commutator$PointTable" "count" "I", Cond.fieldLink RX5 11 "Commutator$PointTable" "rows" "[LCommutator$Point;", Cond.methodLink RX9 163 yX9_latestOf, Cond.static yX9_latestOf, Cond.code yX9_latestOf cX9_latestOf 1 (some (.object "Commutator$Reading"))]
def wsL_time_r2 : List Cond := [Cond.classLink RX9 157 "java/util/NoSuchElementException", Cond.initialized "java/util/NoSuchElementException"]
def wsL_time : List Cond := .codeWith yL_time cL_time 4 (some .int) [(0, 9, 12, 21), (0, 9, 15, 46)] :: ((wsL_time_r1 ++ wsL_time_r2) ++ wsX60 ++ wsX90 ++ wsX50 ++ wsX40 ++ (vx_at0 RX9 109 "java/lang/IndexOutOfBoundsException" ["java/lang/RuntimeException", "java/lang/Exception"]).filter goodWord ++ (vx_at0 RX9 159 "java/util/NoSuchElementException" ["java/lang/RuntimeException", "java/lang/Exception"]).filter goodWord)
def wsL_samples : List Cond := .codeWith yL_samples cL_samples 4 (some .int) [(0, 9, 12, 21)] :: ([.classLink RL 21 "java/lang/IndexOutOfBoundsException", .methodLink RL 54 yX9_samples, .instanceMethod yX9_samples, .selects RX9 yX9_samples yX9_samples, .initialized RX9, .code yX9_samples cX9_samples 2 (some .int), .methodLink RX9 71 yX9_existingPoint, .instanceMethod yX9_existingPoint, .selects RX9 yX9_existingPoint yX9_existingPoint, .code yX9_existingPoint cX9_existingPoint 3 (some (.object "Commutator$Point")), .classLink RX9 107 "java/lang/IndexOutOfBoundsException", .initialized "java/lang/IndexOutOfBoundsException", .fieldLink RX9 10 "Commutator" "table" "LCommutator$PointTable;", .methodLink RX9 202 yX5_at, .instanceMethod yX5_at, .selects RX5 yX5_at yX5_at, .initialized RX5, .code yX5_at cX5_at 2 (some (.object "Commutator$Point")), .fieldLink RX5 21 "Commutator$PointTable" "count" "I", .fieldLink RX5 11 "Commutator$PointTable" "rows" "[LCommutator$Point;"] ++ wsX40 ++ wsX90 ++ wsX50 ++ (vx_at0 RX9 109 "java/lang/IndexOutOfBoundsException" ["java/lang/RuntimeException", "java/lang/Exception"]).filter goodWord)
def wsL_missing : List Cond := .codeWith yL_missing cL_missing 4 (some .int) [(0, 9, 12, 21)] :: ([.classLink RL 21 "java/lang/IndexOutOfBoundsException", .methodLink RL 57 yX9_missing, .instanceMethod yX9_missing, .selects RX9 yX9_missing yX9_missing, .initialized RX9, .code yX9_missing cX9_missing 2 (some .int), .methodLink RX9 71 yX9_existingPoint, .instanceMethod yX9_existingPoint, .selects RX9 yX9_existingPoint yX9_existingPoint, .code yX9_existingPoint cX9_existingPoint 3 (some (.object "Commutator$Point")), .classLink RX9 107 "java/lang/IndexOutOfBoundsException", .initialized "java/lang/IndexOutOfBoundsException", .fieldLink RX9 10 "Commutator" "table" "LCommutator$PointTable;", .methodLink RX9 202 yX5_at, .instanceMethod yX5_at, .selects RX5 yX5_at yX5_at, .initialized RX5, .code yX5_at cX5_at 2 (some (.object "Commutator$Point")), .fieldLink RX5 21 "Commutator$PointTable" "count" "I", .fieldLink RX5 11 "Commutator$PointTable" "rows" "[LCommutator$Point;"] ++ wsX40 ++ wsX90 ++ wsX50 ++ (vx_at0 RX9 109 "java/lang/IndexOutOfBoundsException" ["java/lang/RuntimeException", "java/lang/Exception"]).filter goodWord)
def wsL_derive_r1 : List Cond := [Cond.classLink RL 13 "java/lang/IllegalArgumentException", Cond.classLink RL 15 "java/lang/IllegalStateException", Cond.methodLink RL 60 yX9_derive, Cond.instanceMethod yX9_derive, Cond.selects RX9 yX9_derive yX9_derive, Cond.initialized RX9, Cond.code yX9_derive cX9_derive 5 none, Cond.classLink RX9 55 "java/lang/IllegalArgumentException", Cond.initialized "java/lang/IllegalArgumentException", Cond.classLink RX9 65 "java/lang/IllegalStateException", Cond.initialized "java/lang/IllegalStateException", Cond.fieldLink RX9 47 "Commutator" "derivedTable" "LCommutator$DerivedTable;", Cond.methodLink RX9 181 yX9_isDerived, Cond.static yX9_isDerived, Cond.code yX9_isDerived cX9_isDerived 1 (some .boolean), Cond.methodLink RX9 184 yX9_isOperand, Cond.static yX9_isOperand, Cond.code yX9_isOperand cX9_isOperand 1 (some .boolean), Cond.methodLink RX9 187 yX2_wouldNeedItself, Cond.instanceMethod yX2_wouldNeedItself, Cond.selects RX2 yX2_wouldNeedItself yX2_wouldNeedItself, Cond.initialized RX2, Cond.code yX2_wouldNeedItself cX2_wouldNeedItself 6 (some .boolean), Cond.fieldLink RX2 11 "Commutator$DerivedTable" "rows" "[LCommutator$Derived;"]
def wsL_derive_r2 : List Cond := [Cond.methodLink RX2 36 yX2_operandMask, Cond.static yX2_operandMask, Cond.code yX2_operandMask cX2_operandMask 1 (some .int), Cond.methodLink RX2 40 yX2_needsOf, Cond.instanceMethod yX2_needsOf, Cond.selects RX2 yX2_needsOf yX2_needsOf, Cond.code yX2_needsOf cX2_needsOf 5 (some .int), Cond.methodLink RX9 191 yX2_define, Cond.instanceMethod yX2_define, Cond.selects RX2 yX2_define yX2_define, Cond.code yX2_define cX2_define 6 none, Cond.methodLink RX2 18 yX2_at, Cond.instanceMethod yX2_at, Cond.selects RX2 yX2_at yX2_at, Cond.code yX2_at cX2_at 2 (some (.object "Commutator$Derived"))]
def wsL_derive : List Cond := .codeWith yL_derive cL_derive 6 (some .int) [(0, 9, 12, 13), (0, 9, 16, 15)] :: ((wsL_derive_r1 ++ wsL_derive_r2) ++ wsX90 ++ wsX20 ++ wsX10 ++ (vx_at0 RX9 57 "java/lang/IllegalArgumentException" ["java/lang/RuntimeException", "java/lang/Exception"]).filter goodWord ++ (vx_at0 RX9 67 "java/lang/IllegalStateException" ["java/lang/RuntimeException", "java/lang/Exception"]).filter goodWord)
def wsL_derivedValue_r1 : List Cond := [Cond.classLink RL 13 "java/lang/IllegalArgumentException", Cond.classLink RL 46 "java/util/NoSuchElementException", Cond.methodLink RL 64 yX9_derivedValue, Cond.instanceMethod yX9_derivedValue, Cond.selects RX9 yX9_derivedValue yX9_derivedValue, Cond.initialized RX9, Cond.code yX9_derivedValue cX9_derivedValue 2 (some .int), Cond.methodLink RX9 195 yX9_resultOf, Cond.instanceMethod yX9_resultOf, Cond.selects RX9 yX9_resultOf yX9_resultOf, Cond.code yX9_resultOf cX9_resultOf 3 (some (.object "Commutator$Reading")), Cond.classLink RX9 55 "java/lang/IllegalArgumentException", Cond.initialized "java/lang/IllegalArgumentException", Cond.classLink RX9 157 "java/util/NoSuchElementException", Cond.initialized "java/util/NoSuchElementException", Cond.fieldLink RX9 47 "Commutator" "derivedTable" "LCommutator$DerivedTable;", Cond.fieldLink RX9 10 "Commutator" "table" "LCommutator$PointTable;", Cond.methodLink RX9 181 yX9_isDerived, Cond.static yX9_isDerived, Cond.code yX9_isDerived cX9_isDerived 1 (some .boolean), Cond.methodLink RX9 212 yX2_compute, Cond.instanceMethod yX2_compute, Cond.selects RX2 yX2_compute yX2_compute, Cond.initialized RX2]
def wsL_derivedValue_r2 : List Cond := [Cond.code yX2_compute cX2_compute 5 (some (.object "Commutator$Reading")), Cond.fieldLink RX2 11 "Commutator$DerivedTable" "rows" "[LCommutator$Derived;", Cond.methodLink RX2 47 yX6_forget, Cond.instanceMethod yX6_forget, Cond.selects RX6 yX6_forget yX6_forget, Cond.initialized RX6, Cond.code yX6_forget cX6_forget 1 none, Cond.fieldLink RX6 7 "Commutator$Reading" "known" "Z", Cond.methodLink RX2 52 yX2_computeOne, Cond.instanceMethod yX2_computeOne, Cond.selects RX2 yX2_computeOne yX2_computeOne, Cond.code yX2_computeOne cX2_computeOne 5 none, Cond.methodLink RX2 59 yX2_operand, Cond.instanceMethod yX2_operand, Cond.selects RX2 yX2_operand yX2_operand, Cond.code yX2_operand cX2_operand 4 (some (.object "Commutator$Reading")), Cond.methodLink RX2 18 yX2_at, Cond.instanceMethod yX2_at, Cond.selects RX2 yX2_at yX2_at, Cond.code yX2_at cX2_at 2 (some (.object "Commutator$Derived")), Cond.methodLink RX2 67 yX5_at, Cond.instanceMethod yX5_at, Cond.selects RX5 yX5_at yX5_at, Cond.initialized RX5]
def wsL_derivedValue_r3 : List Cond := [Cond.code yX5_at cX5_at 2 (some (.object "Commutator$Point")), Cond.fieldLink RX5 21 "Commutator$PointTable" "count" "I", Cond.fieldLink RX5 11 "Commutator$PointTable" "rows" "[LCommutator$Point;", Cond.methodLink RX2 63 yX1_combine, Cond.instanceMethod yX1_combine, Cond.selects RX1 yX1_combine yX1_combine, Cond.initialized RX1, Cond.code yX1_combine cX1_combine 4 none, Cond.constantLong RX1 16 (-1000000), Cond.constantLong RX1 18 (1000000), Cond.methodLink RX1 28 Lib.MathLoose.min_long.x, Cond.static Lib.MathLoose.min_long.x, Cond.initialized "java/lang/Math", Cond.code Lib.MathLoose.min_long.x Lib.MathLoose.min_long.code 4 (some .long), Cond.methodLink RX1 33 Lib.MathLoose.max_long.x, Cond.static Lib.MathLoose.max_long.x, Cond.code Lib.MathLoose.max_long.x Lib.MathLoose.max_long.code 4 (some .long), Cond.fieldLink RX1 10 "Commutator$Derived" "result" "LCommutator$Reading;", Cond.methodLink RX1 39 Lib.Math.max.name, Cond.static Lib.Math.max.name, Cond.code Lib.Math.max.name Lib.Math.max.code 2 (some .int), Cond.methodLink RX1 24 yX1_operate, Cond.instanceMethod yX1_operate, Cond.selects RX1 yX1_operate yX1_operate]
def wsL_derivedValue_r4 : List Cond := [Cond.code yX1_operate cX1_operate 5 (some .long), Cond.fieldLink RX1 46 "Commutator$Derived" "operation" "I", Cond.methodLink RX1 42 yX6_set, Cond.instanceMethod yX6_set, Cond.selects RX6 yX6_set yX6_set, Cond.code yX6_set cX6_set 3 none, Cond.fieldLink RX6 13 "Commutator$Reading" "amount" "I", Cond.fieldLink RX6 17 "Commutator$Reading" "moment" "I"]
def wsL_derivedValue : List Cond := .codeWith yL_derivedValue cL_derivedValue 4 (some .int) [(0, 9, 12, 13), (0, 9, 15, 46)] :: ((wsL_derivedValue_r1 ++ (wsL_derivedValue_r2 ++ (wsL_derivedValue_r3 ++ wsL_derivedValue_r4))) ++ wsX60 ++ wsX90 ++ wsX20 ++ wsX10 ++ wsX40 ++ wsX50 ++ (vx_at0 RX9 57 "java/lang/IllegalArgumentException" ["java/lang/RuntimeException", "java/lang/Exception"]).filter goodWord ++ (vx_at0 RX9 159 "java/util/NoSuchElementException" ["java/lang/RuntimeException", "java/lang/Exception"]).filter goodWord)
def wsL_derivedTime_r1 : List Cond := [Cond.classLink RL 13 "java/lang/IllegalArgumentException", Cond.classLink RL 46 "java/util/NoSuchElementException", Cond.methodLink RL 67 yX9_derivedTime, Cond.instanceMethod yX9_derivedTime, Cond.selects RX9 yX9_derivedTime yX9_derivedTime, Cond.initialized RX9, Cond.code yX9_derivedTime cX9_derivedTime 2 (some .int), Cond.methodLink RX9 195 yX9_resultOf, Cond.instanceMethod yX9_resultOf, Cond.selects RX9 yX9_resultOf yX9_resultOf, Cond.code yX9_resultOf cX9_resultOf 3 (some (.object "Commutator$Reading")), Cond.classLink RX9 55 "java/lang/IllegalArgumentException", Cond.initialized "java/lang/IllegalArgumentException", Cond.classLink RX9 157 "java/util/NoSuchElementException", Cond.initialized "java/util/NoSuchElementException", Cond.fieldLink RX9 47 "Commutator" "derivedTable" "LCommutator$DerivedTable;", Cond.fieldLink RX9 10 "Commutator" "table" "LCommutator$PointTable;", Cond.methodLink RX9 181 yX9_isDerived, Cond.static yX9_isDerived, Cond.code yX9_isDerived cX9_isDerived 1 (some .boolean), Cond.methodLink RX9 212 yX2_compute, Cond.instanceMethod yX2_compute, Cond.selects RX2 yX2_compute yX2_compute, Cond.initialized RX2]
def wsL_derivedTime_r2 : List Cond := [Cond.code yX2_compute cX2_compute 5 (some (.object "Commutator$Reading")), Cond.fieldLink RX2 11 "Commutator$DerivedTable" "rows" "[LCommutator$Derived;", Cond.methodLink RX2 47 yX6_forget, Cond.instanceMethod yX6_forget, Cond.selects RX6 yX6_forget yX6_forget, Cond.initialized RX6, Cond.code yX6_forget cX6_forget 1 none, Cond.fieldLink RX6 7 "Commutator$Reading" "known" "Z", Cond.methodLink RX2 52 yX2_computeOne, Cond.instanceMethod yX2_computeOne, Cond.selects RX2 yX2_computeOne yX2_computeOne, Cond.code yX2_computeOne cX2_computeOne 5 none, Cond.methodLink RX2 59 yX2_operand, Cond.instanceMethod yX2_operand, Cond.selects RX2 yX2_operand yX2_operand, Cond.code yX2_operand cX2_operand 4 (some (.object "Commutator$Reading")), Cond.methodLink RX2 18 yX2_at, Cond.instanceMethod yX2_at, Cond.selects RX2 yX2_at yX2_at, Cond.code yX2_at cX2_at 2 (some (.object "Commutator$Derived")), Cond.methodLink RX2 67 yX5_at, Cond.instanceMethod yX5_at, Cond.selects RX5 yX5_at yX5_at, Cond.initialized RX5]
def wsL_derivedTime_r3 : List Cond := [Cond.code yX5_at cX5_at 2 (some (.object "Commutator$Point")), Cond.fieldLink RX5 21 "Commutator$PointTable" "count" "I", Cond.fieldLink RX5 11 "Commutator$PointTable" "rows" "[LCommutator$Point;", Cond.methodLink RX2 63 yX1_combine, Cond.instanceMethod yX1_combine, Cond.selects RX1 yX1_combine yX1_combine, Cond.initialized RX1, Cond.code yX1_combine cX1_combine 4 none, Cond.constantLong RX1 16 (-1000000), Cond.constantLong RX1 18 (1000000), Cond.methodLink RX1 28 Lib.MathLoose.min_long.x, Cond.static Lib.MathLoose.min_long.x, Cond.initialized "java/lang/Math", Cond.code Lib.MathLoose.min_long.x Lib.MathLoose.min_long.code 4 (some .long), Cond.methodLink RX1 33 Lib.MathLoose.max_long.x, Cond.static Lib.MathLoose.max_long.x, Cond.code Lib.MathLoose.max_long.x Lib.MathLoose.max_long.code 4 (some .long), Cond.fieldLink RX1 10 "Commutator$Derived" "result" "LCommutator$Reading;", Cond.methodLink RX1 39 Lib.Math.max.name, Cond.static Lib.Math.max.name, Cond.code Lib.Math.max.name Lib.Math.max.code 2 (some .int), Cond.methodLink RX1 24 yX1_operate, Cond.instanceMethod yX1_operate, Cond.selects RX1 yX1_operate yX1_operate]
def wsL_derivedTime_r4 : List Cond := [Cond.code yX1_operate cX1_operate 5 (some .long), Cond.fieldLink RX1 46 "Commutator$Derived" "operation" "I", Cond.methodLink RX1 42 yX6_set, Cond.instanceMethod yX6_set, Cond.selects RX6 yX6_set yX6_set, Cond.code yX6_set cX6_set 3 none, Cond.fieldLink RX6 13 "Commutator$Reading" "amount" "I", Cond.fieldLink RX6 17 "Commutator$Reading" "moment" "I"]
def wsL_derivedTime : List Cond := .codeWith yL_derivedTime cL_derivedTime 4 (some .int) [(0, 9, 12, 13), (0, 9, 15, 46)] :: ((wsL_derivedTime_r1 ++ (wsL_derivedTime_r2 ++ (wsL_derivedTime_r3 ++ wsL_derivedTime_r4))) ++ wsX60 ++ wsX90 ++ wsX20 ++ wsX10 ++ wsX40 ++ wsX50 ++ (vx_at0 RX9 57 "java/lang/IllegalArgumentException" ["java/lang/RuntimeException", "java/lang/Exception"]).filter goodWord ++ (vx_at0 RX9 159 "java/util/NoSuchElementException" ["java/lang/RuntimeException", "java/lang/Exception"]).filter goodWord)
def wsL_matches : List Cond := .codeWith yL_matches cL_matches 4 (some .int) [(0, 9, 12, 13)] :: ([.classLink RL 13 "java/lang/IllegalArgumentException", .methodLink RL 70 yX9_matches, .instanceMethod yX9_matches, .selects RX9 yX9_matches yX9_matches, .initialized RX9, .code yX9_matches cX9_matches 2 (some .int), .classLink RX9 55 "java/lang/IllegalArgumentException", .initialized "java/lang/IllegalArgumentException", .fieldLink RX9 33 "Commutator" "synchroniser" "LCommutator$Synchroniser;", .methodLink RX9 199 yX8_syncWordsAt, .instanceMethod yX8_syncWordsAt, .selects RX8 yX8_syncWordsAt yX8_syncWordsAt, .initialized RX8, .code yX8_syncWordsAt cX8_syncWordsAt 2 (some .int), .fieldLink RX8 15 "Commutator$Synchroniser" "syncWords" "[I"] ++ wsX90 ++ wsX80 ++ (vx_at0 RX9 57 "java/lang/IllegalArgumentException" ["java/lang/RuntimeException", "java/lang/Exception"]).filter goodWord)
def wsL_law0_r1 : List Cond := [Cond.classLink RL 8 RX9, Cond.instantiable RX9 6, Cond.initialized RX9, Cond.classLink RL 74 RX10, Cond.instantiable RX10 35, Cond.initialized RX10, Cond.arrayClass .long, Cond.methodLink RL 73 yX9_init, Cond.instanceMethod yX9_init, Cond.code yX9_init cX9_init 1 none, Cond.methodLink RX9 1 objectInit, Cond.instanceMethod objectInit, Cond.code objectInit ⟨#[0xb1]⟩ 1 none, Cond.classLink RX9 7 RX5, Cond.instantiable RX5 3, Cond.initialized RX5, Cond.fieldLink RX9 10 "Commutator" "table" "LCommutator$PointTable;", Cond.classLink RX9 16 RX3, Cond.instantiable RX3 3, Cond.initialized RX3, Cond.fieldLink RX9 19 "Commutator" "line" "LCommutator$Line;", Cond.classLink RX9 23 RX7, Cond.instantiable RX7 2, Cond.initialized RX7]
def wsL_law0_r2 : List Cond := [Cond.fieldLink RX9 26 "Commutator" "sender" "LCommutator$Sender;", Cond.classLink RX9 30 RX8, Cond.instantiable RX8 7, Cond.initialized RX8, Cond.fieldLink RX9 33 "Commutator" "synchroniser" "LCommutator$Synchroniser;", Cond.classLink RX9 37 RX0, Cond.instantiable RX0 5, Cond.initialized RX0, Cond.fieldLink RX9 40 "Commutator" "decoder" "LCommutator$Decoder;", Cond.classLink RX9 44 RX2, Cond.instantiable RX2 1, Cond.initialized RX2, Cond.fieldLink RX9 47 "Commutator" "derivedTable" "LCommutator$DerivedTable;", Cond.instanceMethod yX5_init, Cond.code yX5_init cX5_init 1 none, Cond.methodLink RX5 3 objectInit, Cond.classLink RX5 9 RX4, Cond.fieldLink RX5 11 "Commutator$PointTable" "rows" "[LCommutator$Point;", Cond.fieldLink RX5 17 "Commutator$PointTable" "usedBits" "[J", Cond.instanceMethod yX3_init, Cond.code yX3_init cX3_init 1 none, Cond.methodLink RX3 3 objectInit, Cond.arrayClass .int, Cond.fieldLink RX3 9 "Commutator$Line" "bits" "[I"]
def wsL_law0_r3 : List Cond := [Cond.instanceMethod yX7_init, Cond.code yX7_init cX7_init 1 none, Cond.methodLink RX7 3 objectInit, Cond.instanceMethod yX8_init, Cond.code yX8_init cX8_init 1 none, Cond.methodLink RX8 3 objectInit, Cond.fieldLink RX8 9 "Commutator$Synchroniser" "mode" "I", Cond.fieldLink RX8 15 "Commutator$Synchroniser" "syncWords" "[I", Cond.instanceMethod yX0_init, Cond.code yX0_init cX0_init 1 none, Cond.methodLink RX0 3 objectInit, Cond.methodLink RX9 46 yX2_init, Cond.instanceMethod yX2_init, Cond.code yX2_init cX2_init 2 none, Cond.methodLink RX2 3 objectInit, Cond.classLink RX2 9 RX1, Cond.fieldLink RX2 11 "Commutator$DerivedTable" "rows" "[LCommutator$Derived;", Cond.instantiable RX1 5, Cond.initialized RX1, Cond.instanceMethod yX1_init, Cond.code yX1_init cX1_init 1 none, Cond.methodLink RX1 1 objectInit, Cond.classLink RX1 7 RX6, Cond.instantiable RX6 3]
def wsL_law0_r4 : List Cond := [Cond.initialized RX6, Cond.fieldLink RX1 10 "Commutator$Derived" "result" "LCommutator$Reading;", Cond.instanceMethod yX6_init, Cond.code yX6_init cX6_init 1 none, Cond.methodLink RX6 1 objectInit, Cond.methodLink RL 76 yX10_init, Cond.instanceMethod yX10_init, Cond.code yX10_init cX10_init 2 none, Cond.methodLink RX10 1 objectInit, Cond.fieldLink RX10 7 "CommutatorModel" "width" "[I", Cond.fieldLink RX10 13 "CommutatorModel" "convention" "[I", Cond.fieldLink RX10 16 "CommutatorModel" "period" "[I", Cond.fieldLink RX10 19 "CommutatorModel" "samplesEach" "[I", Cond.fieldLink RX10 22 "CommutatorModel" "phase" "[I", Cond.fieldLink RX10 25 "CommutatorModel" "offset" "[I", Cond.fieldLink RX10 28 "CommutatorModel" "present" "[I", Cond.fieldLink RX10 31 "CommutatorModel" "sending" "[I", Cond.fieldLink RX10 34 "CommutatorModel" "line" "[I", Cond.fieldLink RX10 37 "CommutatorModel" "past" "[I", Cond.fieldLink RX10 40 "CommutatorModel" "value" "[I", Cond.fieldLink RX10 43 "CommutatorModel" "time" "[I", Cond.fieldLink RX10 46 "CommutatorModel" "samples" "[I", Cond.fieldLink RX10 49 "CommutatorModel" "missing" "[I", Cond.fieldLink RX10 52 "CommutatorModel" "operation" "[I"]
def wsL_law0_r5 : List Cond := [Cond.fieldLink RX10 55 "CommutatorModel" "first" "[I", Cond.fieldLink RX10 58 "CommutatorModel" "second" "[I", Cond.arrayClass .boolean, Cond.fieldLink RX10 61 "CommutatorModel" "isKnown" "[Z", Cond.fieldLink RX10 65 "CommutatorModel" "derived" "[I", Cond.fieldLink RX10 68 "CommutatorModel" "derivedAt" "[I", Cond.fieldLink RX10 71 "CommutatorModel" "counter" "I", Cond.fieldLink RX10 75 "CommutatorModel" "begun" "I", Cond.methodLink RL 77 yL_addPoint, Cond.static yL_addPoint, Cond.initialized RL, Cond.codeWith yL_addPoint cL_addPoint 7 (some .int) [(0, 14, 17, 13), (0, 14, 21, 15)], Cond.classLink RL 13 "java/lang/IllegalArgumentException", Cond.classLink RL 15 "java/lang/IllegalStateException", Cond.methodLink RL 7 yX9_addPoint, Cond.instanceMethod yX9_addPoint, Cond.selects RX9 yX9_addPoint yX9_addPoint, Cond.code yX9_addPoint cX9_addPoint 5 (some .int), Cond.classLink RX9 55 "java/lang/IllegalArgumentException", Cond.initialized "java/lang/IllegalArgumentException", Cond.classLink RX9 65 "java/lang/IllegalStateException", Cond.initialized "java/lang/IllegalStateException", Cond.methodLink RX9 51 yX9_isPointAllowed, Cond.static yX9_isPointAllowed]
def wsL_law0_r6 : List Cond := [Cond.code yX9_isPointAllowed cX9_isPointAllowed 5 (some .boolean), Cond.methodLink RX9 62 yX5_add, Cond.instanceMethod yX5_add, Cond.selects RX5 yX5_add yX5_add, Cond.code yX5_add cX5_add 10 (some .boolean), Cond.fieldLink RX5 21 "Commutator$PointTable" "count" "I", Cond.instantiable RX4 10, Cond.initialized RX4, Cond.methodLink RX5 25 yX5_bitsAt, Cond.static yX5_bitsAt, Cond.code yX5_bitsAt cX5_bitsAt 5 (some .long), Cond.methodLink RX5 29 yX5_isFree, Cond.instanceMethod yX5_isFree, Cond.selects RX5 yX5_isFree yX5_isFree, Cond.code yX5_isFree cX5_isFree 6 (some .boolean), Cond.methodLink RX5 33 yX5_use, Cond.instanceMethod yX5_use, Cond.selects RX5 yX5_use yX5_use, Cond.code yX5_use cX5_use 6 none, Cond.methodLink RX5 37 yX4_init, Cond.instanceMethod yX4_init, Cond.code yX4_init cX4_init 7 none, Cond.methodLink RX4 3 objectInit, Cond.fieldLink RX4 9 "Commutator$Point" "width" "I"]
def wsL_law0_r7 : List Cond := [Cond.fieldLink RX4 15 "Commutator$Point" "convention" "I", Cond.fieldLink RX4 18 "Commutator$Point" "period" "I", Cond.fieldLink RX4 21 "Commutator$Point" "twice" "Z", Cond.fieldLink RX4 25 "Commutator$Point" "phase" "I", Cond.fieldLink RX4 28 "Commutator$Point" "offset" "I", Cond.classLink RX4 31 RX6, Cond.fieldLink RX4 34 "Commutator$Point" "latest" "LCommutator$Reading;", Cond.methodLink RL 82 yX10_addPoint, Cond.instanceMethod yX10_addPoint, Cond.selects RX10 yX10_addPoint yX10_addPoint, Cond.code yX10_addPoint cX10_addPoint 7 (some .int), Cond.fieldLink RX10 81 "CommutatorModel" "points" "I", Cond.fieldLink RX10 104 "CommutatorModel" "words" "I", Cond.methodLink RX10 84 yX10_isIn, Cond.static yX10_isIn, Cond.code yX10_isIn cX10_isIn 3 (some .boolean), Cond.methodLink RX10 100 yX10_firstPlace, Cond.instanceMethod yX10_firstPlace, Cond.selects RX10 yX10_firstPlace yX10_firstPlace, Cond.code yX10_firstPlace cX10_firstPlace 6 (some .int), Cond.methodLink RX10 96 yX10_isFree, Cond.instanceMethod yX10_isFree, Cond.selects RX10 yX10_isFree yX10_isFree, Cond.code yX10_isFree cX10_isFree 9 (some .boolean)]
def wsL_law0_r8 : List Cond := [Cond.methodLink RX10 92 yX10_userOf, Cond.instanceMethod yX10_userOf, Cond.selects RX10 yX10_userOf yX10_userOf, Cond.code yX10_userOf cX10_userOf 7 (some .int), Cond.methodLink RX10 88 yX10_isSent, Cond.instanceMethod yX10_isSent, Cond.selects RX10 yX10_isSent yX10_isSent, Cond.code yX10_isSent cX10_isSent 3 (some .boolean), Cond.methodLink RX10 107 yX10_can, Cond.instanceMethod yX10_can, Cond.selects RX10 yX10_can yX10_can, Cond.code yX10_can cX10_can 2 (some .boolean), Cond.fieldLink RX10 78 "CommutatorModel" "thrown" "I", Cond.methodLink RL 83 yX10_thrown, Cond.instanceMethod yX10_thrown, Cond.selects RX10 yX10_thrown yX10_thrown, Cond.code yX10_thrown cX10_thrown 1 (some .int), Cond.methodLink RL 86 yX9_points, Cond.instanceMethod yX9_points, Cond.selects RX9 yX9_points yX9_points, Cond.code yX9_points cX9_points 1 (some .int), Cond.methodLink RL 89 yX10_points, Cond.instanceMethod yX10_points, Cond.selects RX10 yX10_points yX10_points]
def wsL_law0_r9 : List Cond := [Cond.code yX10_points cX10_points 1 (some .int), Cond.methodLink RL 90 yL_place, Cond.static yL_place, Cond.codeWith yL_place cL_place 4 (some .int) [(0, 9, 12, 21)], Cond.classLink RL 21 "java/lang/IndexOutOfBoundsException", Cond.methodLink RL 17 yX9_place, Cond.instanceMethod yX9_place, Cond.selects RX9 yX9_place yX9_place, Cond.code yX9_place cX9_place 3 (some .int), Cond.methodLink RX9 71 yX9_existingPoint, Cond.instanceMethod yX9_existingPoint, Cond.selects RX9 yX9_existingPoint yX9_existingPoint, Cond.code yX9_existingPoint cX9_existingPoint 3 (some (.object "Commutator$Point")), Cond.classLink RX9 107 "java/lang/IndexOutOfBoundsException", Cond.initialized "java/lang/IndexOutOfBoundsException", Cond.methodLink RX9 202 yX5_at, Cond.instanceMethod yX5_at, Cond.selects RX5 yX5_at yX5_at, Cond.code yX5_at cX5_at 2 (some (.object "Commutator$Point")), Cond.methodLink RL 93 yX10_place, Cond.instanceMethod yX10_place, Cond.selects RX10 yX10_place yX10_place, Cond.code yX10_place cX10_place 2 (some .int), Cond.methodLink RX10 111 yX10_isPoint]
def wsL_law0_r10 : List Cond := [Cond.instanceMethod yX10_isPoint, Cond.selects RX10 yX10_isPoint yX10_isPoint, Cond.code yX10_isPoint cX10_isPoint 2 (some .boolean), Cond.methodLink RL 94 yX9_spare, Cond.instanceMethod yX9_spare, Cond.selects RX9 yX9_spare yX9_spare, Cond.code yX9_spare cX9_spare 1 (some .int), Cond.methodLink RX9 83 yX5_spareBits, Cond.instanceMethod yX5_spareBits, Cond.selects RX5 yX5_spareBits yX5_spareBits, Cond.code yX5_spareBits cX5_spareBits 3 (some .int), Cond.methodLink RX5 40 yJ13_bitCount_95d88, Cond.static yJ13_bitCount_95d88, Cond.initialized RJ13, Cond.code yJ13_bitCount_95d88 cJ13_bitCount_95d88 2 (some .int), Cond.constantLong RJ13 314 (6148914691236517205), Cond.constantLong RJ13 316 (3689348814741910323), Cond.constantLong RJ13 318 (1085102592571150095), Cond.methodLink RL 97 yX10_spare, Cond.instanceMethod yX10_spare, Cond.selects RX10 yX10_spare yX10_spare, Cond.code yX10_spare cX10_spare 3 (some .int), Cond.methodLink RL 98 yL_put, Cond.static yL_put]
def wsL_law0_r11 : List Cond := [Cond.codeWith yL_put cL_put 5 (some .int) [(0, 10, 13, 21), (0, 10, 17, 13)], Cond.methodLink RL 23 yX9_put, Cond.instanceMethod yX9_put, Cond.selects RX9 yX9_put yX9_put, Cond.code yX9_put cX9_put 5 (some .int), Cond.methodLink RX9 87 yX4_lowest, Cond.instanceMethod yX4_lowest, Cond.selects RX4 yX4_lowest yX4_lowest, Cond.code yX4_lowest cX4_lowest 1 (some .int), Cond.methodLink RX4 38 yX4_signWeight, Cond.instanceMethod yX4_signWeight, Cond.selects RX4 yX4_signWeight yX4_signWeight, Cond.code yX4_signWeight cX4_signWeight 1 (some .int), Cond.methodLink RX9 90 yX4_highest, Cond.instanceMethod yX4_highest, Cond.selects RX4 yX4_highest yX4_highest, Cond.code yX4_highest cX4_highest 1 (some .int), Cond.methodLink RL 101 yX10_put, Cond.instanceMethod yX10_put, Cond.selects RX10 yX10_put yX10_put, Cond.code yX10_put cX10_put 7 (some .int), Cond.methodLink RL 102 yL_send, Cond.static yL_send, Cond.codeWith yL_send cL_send 4 (some .int) [(0, 9, 12, 13), (0, 9, 15, 15)]]
def wsL_law0_r12 : List Cond := [Cond.methodLink RL 27 yX9_send, Cond.instanceMethod yX9_send, Cond.selects RX9 yX9_send yX9_send, Cond.code yX9_send cX9_send 3 (some .int), Cond.methodLink RX9 96 yX7_sendWord, Cond.instanceMethod yX7_sendWord, Cond.selects RX7 yX7_sendWord yX7_sendWord, Cond.code yX7_sendWord cX7_sendWord 7 none, Cond.fieldLink RX7 9 "Commutator$Sender" "wordsSent" "I", Cond.constant RX7 15 (47104), Cond.fieldLink RX7 16 "Commutator$Sender" "frame" "J", Cond.methodLink RX7 20 yX7_packSamples, Cond.instanceMethod yX7_packSamples, Cond.selects RX7 yX7_packSamples yX7_packSamples, Cond.code yX7_packSamples cX7_packSamples 7 none, Cond.methodLink RX7 35 yX5_at, Cond.methodLink RX7 39 yX4_isSentIn, Cond.instanceMethod yX4_isSentIn, Cond.selects RX4 yX4_isSentIn yX4_isSentIn, Cond.code yX4_isSentIn cX4_isSentIn 2 (some .boolean), Cond.methodLink RX7 45 yX4_samplesInFrame, Cond.instanceMethod yX4_samplesInFrame, Cond.selects RX4 yX4_samplesInFrame yX4_samplesInFrame, Cond.code yX4_samplesInFrame cX4_samplesInFrame 1 (some .int)]
def wsL_law0_r13 : List Cond := [Cond.methodLink RX7 49 yX4_firstBit, Cond.instanceMethod yX4_firstBit, Cond.selects RX4 yX4_firstBit yX4_firstBit, Cond.code yX4_firstBit cX4_firstBit 2 (some .int), Cond.methodLink RX7 56 yX4_encode, Cond.instanceMethod yX4_encode, Cond.selects RX4 yX4_encode yX4_encode, Cond.code yX4_encode cX4_encode 2 (some .int), Cond.methodLink RX7 59 yX4_shift, Cond.instanceMethod yX4_shift, Cond.selects RX4 yX4_shift yX4_shift, Cond.code yX4_shift cX4_shift 2 (some .int), Cond.methodLink RX4 42 yX4_firstBit, Cond.methodLink RX7 24 yX3_append, Cond.instanceMethod yX3_append, Cond.selects RX3 yX3_append yX3_append, Cond.code yX3_append cX3_append 2 none, Cond.fieldLink RX3 15 "Commutator$Line" "end" "I", Cond.methodLink RX9 100 yX3_length, Cond.instanceMethod yX3_length, Cond.selects RX3 yX3_length yX3_length, Cond.code yX3_length cX3_length 1 (some .int), Cond.fieldLink RX3 19 "Commutator$Line" "head" "I", Cond.methodLink RL 104 yX10_send]
def wsL_law0_r14 : List Cond := [Cond.instanceMethod yX10_send, Cond.selects RX10 yX10_send yX10_send, Cond.code yX10_send cX10_send 3 (some .int), Cond.fieldLink RX10 117 "CommutatorModel" "onLine" "I", Cond.methodLink RX10 120 yX10_sendWord, Cond.instanceMethod yX10_sendWord, Cond.selects RX10 yX10_sendWord yX10_sendWord, Cond.code yX10_sendWord cX10_sendWord 7 none, Cond.methodLink RX10 114 yX10_coded, Cond.instanceMethod yX10_coded, Cond.selects RX10 yX10_coded yX10_coded, Cond.code yX10_coded cX10_coded 4 (some .int), Cond.methodLink RL 105 yX9_sent, Cond.instanceMethod yX9_sent, Cond.selects RX9 yX9_sent yX9_sent, Cond.code yX9_sent cX9_sent 1 (some .int), Cond.methodLink RL 108 yX10_sent, Cond.instanceMethod yX10_sent, Cond.selects RX10 yX10_sent yX10_sent, Cond.code yX10_sent cX10_sent 1 (some .int), Cond.methodLink RL 109 yX9_onLine, Cond.instanceMethod yX9_onLine, Cond.selects RX9 yX9_onLine yX9_onLine, Cond.code yX9_onLine cX9_onLine 1 (some .int)]
def wsL_law0_r15 : List Cond := [Cond.methodLink RL 112 yX10_onLine, Cond.instanceMethod yX10_onLine, Cond.selects RX10 yX10_onLine yX10_onLine, Cond.code yX10_onLine cX10_onLine 1 (some .int), Cond.methodLink RL 113 yL_bit, Cond.static yL_bit, Cond.codeWith yL_bit cL_bit 4 (some .int) [(0, 9, 12, 21)], Cond.methodLink RL 30 yX9_bit, Cond.instanceMethod yX9_bit, Cond.selects RX9 yX9_bit yX9_bit, Cond.code yX9_bit cX9_bit 2 (some .int), Cond.methodLink RX9 103 yX3_holds, Cond.instanceMethod yX3_holds, Cond.selects RX3 yX3_holds yX3_holds, Cond.code yX3_holds cX3_holds 3 (some .boolean), Cond.methodLink RX3 22 yX3_length, Cond.methodLink RX9 110 yX3_look, Cond.instanceMethod yX3_look, Cond.selects RX3 yX3_look yX3_look, Cond.code yX3_look cX3_look 2 (some .int), Cond.methodLink RX3 26 yX3_holds, Cond.methodLink RL 115 yX10_bit, Cond.instanceMethod yX10_bit, Cond.selects RX10 yX10_bit yX10_bit]
def wsL_law0_r16 : List Cond := [Cond.code yX10_bit cX10_bit 2 (some .int), Cond.methodLink RX10 123 yX10_isBit, Cond.instanceMethod yX10_isBit, Cond.selects RX10 yX10_isBit yX10_isBit, Cond.code yX10_isBit cX10_isBit 2 (some .boolean), Cond.methodLink RL 116 yL_flip, Cond.static yL_flip, Cond.codeWith yL_flip cL_flip 4 (some .int) [(0, 9, 12, 21)], Cond.methodLink RL 33 yX9_flip, Cond.instanceMethod yX9_flip, Cond.selects RX9 yX9_flip yX9_flip, Cond.code yX9_flip cX9_flip 2 (some .int), Cond.methodLink RX9 114 yX3_turnOver, Cond.instanceMethod yX3_turnOver, Cond.selects RX3 yX3_turnOver yX3_turnOver, Cond.code yX3_turnOver cX3_turnOver 2 (some .int), Cond.methodLink RL 118 yX10_flip, Cond.instanceMethod yX10_flip, Cond.selects RX10 yX10_flip yX10_flip, Cond.code yX10_flip cX10_flip 2 (some .int), Cond.methodLink RL 119 yL_cut, Cond.static yL_cut, Cond.codeWith yL_cut cL_cut 5 (some .int) [(0, 10, 13, 13), (0, 10, 17, 21)], Cond.methodLink RL 36 yX9_cut]
def wsL_law0_r17 : List Cond := [Cond.instanceMethod yX9_cut, Cond.selects RX9 yX9_cut yX9_cut, Cond.code yX9_cut cX9_cut 3 (some .int), Cond.methodLink RX9 117 yX3_remove, Cond.instanceMethod yX3_remove, Cond.selects RX3 yX3_remove yX3_remove, Cond.code yX3_remove cX3_remove 4 none, Cond.methodLink RX3 30 arraycopyName, Cond.native arraycopyName, Cond.static arraycopyName, Cond.initialized "java/lang/System", Cond.methodLink RL 121 yX10_cut, Cond.instanceMethod yX10_cut, Cond.selects RX10 yX10_cut yX10_cut, Cond.code yX10_cut cX10_cut 3 (some .int), Cond.methodLink RX10 126 yX10_drop, Cond.instanceMethod yX10_drop, Cond.selects RX10 yX10_drop yX10_drop, Cond.code yX10_drop cX10_drop 4 none, Cond.methodLink RL 122 yL_receive, Cond.static yL_receive, Cond.codeWith yL_receive cL_receive 4 (some .int) [(0, 9, 12, 13)], Cond.methodLink RL 39 yX9_receive, Cond.instanceMethod yX9_receive]
def wsL_law0_r18 : List Cond := [Cond.selects RX9 yX9_receive yX9_receive, Cond.code yX9_receive cX9_receive 5 (some .int), Cond.methodLink RX9 124 Lib.Math.min.name, Cond.static Lib.Math.min.name, Cond.initialized "java/lang/Math", Cond.code Lib.Math.min.name Lib.Math.min.code 2 (some .int), Cond.methodLink RX9 130 yX3_takeFirst, Cond.instanceMethod yX3_takeFirst, Cond.selects RX3 yX3_takeFirst yX3_takeFirst, Cond.code yX3_takeFirst cX3_takeFirst 2 (some .int), Cond.methodLink RX9 133 yX8_take, Cond.instanceMethod yX8_take, Cond.selects RX8 yX8_take yX8_take, Cond.code yX8_take cX8_take 2 (some .boolean), Cond.fieldLink RX8 19 "Commutator$Synchroniser" "latest" "J", Cond.fieldLink RX8 23 "Commutator$Synchroniser" "takenBits" "I", Cond.fieldLink RX8 33 "Commutator$Synchroniser" "bitsOfFrame" "I", Cond.methodLink RX8 26 yX8_isSyncWord, Cond.instanceMethod yX8_isSyncWord, Cond.selects RX8 yX8_isSyncWord yX8_isSyncWord, Cond.code yX8_isSyncWord cX8_isSyncWord 1 (some .boolean), Cond.methodLink RX8 39 yX8_latestWord, Cond.instanceMethod yX8_latestWord, Cond.selects RX8 yX8_latestWord yX8_latestWord]
def wsL_law0_r19 : List Cond := [Cond.code yX8_latestWord cX8_latestWord 1 (some .int), Cond.methodLink RX8 30 yX8_search, Cond.instanceMethod yX8_search, Cond.selects RX8 yX8_search yX8_search, Cond.code yX8_search cX8_search 1 none, Cond.fieldLink RX8 43 "Commutator$Synchroniser" "matchCount" "I", Cond.methodLink RX8 36 yX8_judgeSyncWord, Cond.instanceMethod yX8_judgeSyncWord, Cond.selects RX8 yX8_judgeSyncWord yX8_judgeSyncWord, Cond.code yX8_judgeSyncWord cX8_judgeSyncWord 1 none, Cond.methodLink RX8 46 yX8_check, Cond.instanceMethod yX8_check, Cond.selects RX8 yX8_check yX8_check, Cond.code yX8_check cX8_check 1 none, Cond.fieldLink RX8 52 "Commutator$Synchroniser" "missCount" "I", Cond.methodLink RX8 49 yX8_keepLock, Cond.instanceMethod yX8_keepLock, Cond.selects RX8 yX8_keepLock yX8_keepLock, Cond.code yX8_keepLock cX8_keepLock 1 none, Cond.methodLink RX8 55 yJ6_bitCount_0f7a4, Cond.static yJ6_bitCount_0f7a4, Cond.initialized RJ6, Cond.code yJ6_bitCount_0f7a4 cJ6_bitCount_0f7a4 1 (some .int), Cond.constant RJ6 265 (1431655765)]
def wsL_law0_r20 : List Cond := [Cond.constant RJ6 266 (858993459), Cond.constant RJ6 267 (252645135), Cond.methodLink RX9 141 yX0_decode, Cond.instanceMethod yX0_decode, Cond.selects RX0 yX0_decode yX0_decode, Cond.code yX0_decode cX0_decode 6 none, Cond.fieldLink RX0 9 "Commutator$Decoder" "usedFrames" "I", Cond.fieldLink RX0 15 "Commutator$Decoder" "latestNumber" "I", Cond.fieldLink RX0 18 "Commutator$Decoder" "latestCounter" "I", Cond.fieldLink RX0 21 "Commutator$Decoder" "repeatedFrames" "I", Cond.methodLink RX0 24 yX0_noteLost, Cond.instanceMethod yX0_noteLost, Cond.selects RX0 yX0_noteLost yX0_noteLost, Cond.code yX0_noteLost cX0_noteLost 6 none, Cond.fieldLink RX0 32 "Commutator$Decoder" "lostFrames" "I", Cond.methodLink RX0 40 yX5_at, Cond.methodLink RX0 44 yX4_isSentIn, Cond.methodLink RX0 50 yX4_noteMissing, Cond.instanceMethod yX4_noteMissing, Cond.selects RX4 yX4_noteMissing yX4_noteMissing, Cond.code yX4_noteMissing cX4_noteMissing 1 none, Cond.fieldLink RX4 62 "Commutator$Point" "missingCount" "I", Cond.methodLink RX4 46 yX4_samplesInFrame, Cond.methodLink RX0 28 yX0_giveSamples]
def wsL_law0_r21 : List Cond := [Cond.instanceMethod yX0_giveSamples, Cond.selects RX0 yX0_giveSamples yX0_giveSamples, Cond.code yX0_giveSamples cX0_giveSamples 6 none, Cond.methodLink RX0 53 yX4_readFrom, Cond.instanceMethod yX4_readFrom, Cond.selects RX4 yX4_readFrom yX4_readFrom, Cond.code yX4_readFrom cX4_readFrom 6 none, Cond.fieldLink RX4 59 "Commutator$Point" "sampleCount" "I", Cond.methodLink RX4 49 yX4_shift, Cond.methodLink RX4 52 yX4_decode, Cond.instanceMethod yX4_decode, Cond.selects RX4 yX4_decode yX4_decode, Cond.code yX4_decode cX4_decode 3 (some .int), Cond.methodLink RX4 55 yX6_set, Cond.instanceMethod yX6_set, Cond.selects RX6 yX6_set yX6_set, Cond.code yX6_set cX6_set 3 none, Cond.fieldLink RX6 7 "Commutator$Reading" "known" "Z", Cond.fieldLink RX6 13 "Commutator$Reading" "amount" "I", Cond.fieldLink RX6 17 "Commutator$Reading" "moment" "I", Cond.methodLink RL 124 yX10_receive, Cond.instanceMethod yX10_receive, Cond.selects RX10 yX10_receive yX10_receive, Cond.code yX10_receive cX10_receive 5 (some .int)]
def wsL_law0_r22 : List Cond := [Cond.methodLink RX10 174 yX10_takes, Cond.instanceMethod yX10_takes, Cond.selects RX10 yX10_takes yX10_takes, Cond.code yX10_takes cX10_takes 2 (some .int), Cond.fieldLink RX10 164 "CommutatorModel" "taken" "I", Cond.fieldLink RX10 151 "CommutatorModel" "state" "I", Cond.fieldLink RX10 154 "CommutatorModel" "matches" "I", Cond.fieldLink RX10 160 "CommutatorModel" "isDecoded" "Z", Cond.methodLink RX10 130 yX10_bits, Cond.instanceMethod yX10_bits, Cond.selects RX10 yX10_bits yX10_bits, Cond.code yX10_bits cX10_bits 5 (some .int), Cond.methodLink RX10 167 yX10_compares, Cond.instanceMethod yX10_compares, Cond.selects RX10 yX10_compares yX10_compares, Cond.code yX10_compares cX10_compares 3 none, Cond.fieldLink RX10 157 "CommutatorModel" "misses" "I", Cond.methodLink RX10 170 yX10_decodes, Cond.instanceMethod yX10_decodes, Cond.selects RX10 yX10_decodes yX10_decodes, Cond.code yX10_decodes cX10_decodes 5 (some .int), Cond.fieldLink RX10 139 "CommutatorModel" "repeats" "I", Cond.fieldLink RX10 142 "CommutatorModel" "lost" "I", Cond.fieldLink RX10 136 "CommutatorModel" "number" "I"]
def wsL_law0_r23 : List Cond := [Cond.fieldLink RX10 145 "CommutatorModel" "frames" "I", Cond.methodLink RX10 148 yX10_sample, Cond.instanceMethod yX10_sample, Cond.selects RX10 yX10_sample yX10_sample, Cond.code yX10_sample cX10_sample 4 none, Cond.methodLink RX10 133 yX10_read, Cond.instanceMethod yX10_read, Cond.selects RX10 yX10_read yX10_read, Cond.code yX10_read cX10_read 4 (some .int), Cond.methodLink RL 125 yX9_state, Cond.instanceMethod yX9_state, Cond.selects RX9 yX9_state yX9_state, Cond.code yX9_state cX9_state 1 (some .int), Cond.methodLink RL 128 yX10_state, Cond.instanceMethod yX10_state, Cond.selects RX10 yX10_state yX10_state, Cond.code yX10_state cX10_state 1 (some .int), Cond.methodLink RL 129 yX9_taken, Cond.instanceMethod yX9_taken, Cond.selects RX9 yX9_taken yX9_taken, Cond.code yX9_taken cX9_taken 1 (some .int), Cond.methodLink RL 132 yX10_taken, Cond.instanceMethod yX10_taken, Cond.selects RX10 yX10_taken yX10_taken]
def wsL_law0_r24 : List Cond := [Cond.code yX10_taken cX10_taken 1 (some .int), Cond.methodLink RL 133 yX9_frames, Cond.instanceMethod yX9_frames, Cond.selects RX9 yX9_frames yX9_frames, Cond.code yX9_frames cX9_frames 1 (some .int), Cond.methodLink RL 136 yX10_frames, Cond.instanceMethod yX10_frames, Cond.selects RX10 yX10_frames yX10_frames, Cond.code yX10_frames cX10_frames 1 (some .int), Cond.methodLink RL 137 yX9_lost, Cond.instanceMethod yX9_lost, Cond.selects RX9 yX9_lost yX9_lost, Cond.code yX9_lost cX9_lost 1 (some .int), Cond.methodLink RL 140 yX10_lost, Cond.instanceMethod yX10_lost, Cond.selects RX10 yX10_lost yX10_lost, Cond.code yX10_lost cX10_lost 1 (some .int), Cond.methodLink RL 141 yX9_repeats, Cond.instanceMethod yX9_repeats, Cond.selects RX9 yX9_repeats yX9_repeats, Cond.code yX9_repeats cX9_repeats 1 (some .int), Cond.methodLink RL 144 yX10_repeats, Cond.instanceMethod yX10_repeats, Cond.selects RX10 yX10_repeats yX10_repeats]
def wsL_law0_r25 : List Cond := [Cond.code yX10_repeats cX10_repeats 1 (some .int), Cond.methodLink RL 145 yL_number, Cond.static yL_number, Cond.codeWith yL_number cL_number 3 (some .int) [(0, 8, 11, 46)], Cond.classLink RL 46 "java/util/NoSuchElementException", Cond.methodLink RL 42 yX9_number, Cond.instanceMethod yX9_number, Cond.selects RX9 yX9_number yX9_number, Cond.code yX9_number cX9_number 1 (some .int), Cond.classLink RX9 157 "java/util/NoSuchElementException", Cond.initialized "java/util/NoSuchElementException", Cond.methodLink RL 148 yX10_number, Cond.instanceMethod yX10_number, Cond.selects RX10 yX10_number yX10_number, Cond.code yX10_number cX10_number 1 (some .int), Cond.methodLink RL 149 yL_value, Cond.static yL_value, Cond.codeWith yL_value cL_value 4 (some .int) [(0, 9, 12, 21), (0, 9, 15, 46)], Cond.methodLink RL 48 yX9_value, Cond.instanceMethod yX9_value, Cond.selects RX9 yX9_value yX9_value, Cond.code yX9_value cX9_value 2 (some .int), Cond.methodLink RX9 163 yX9_latestOf, Cond.static yX9_latestOf]
def wsL_law0_r26 : List Cond := [Cond.code yX9_latestOf cX9_latestOf 1 (some (.object "Commutator$Reading")), Cond.methodLink RL 151 yX10_value, Cond.instanceMethod yX10_value, Cond.selects RX10 yX10_value yX10_value, Cond.code yX10_value cX10_value 2 (some .int), Cond.methodLink RX10 178 yX10_hasSample, Cond.instanceMethod yX10_hasSample, Cond.selects RX10 yX10_hasSample yX10_hasSample, Cond.code yX10_hasSample cX10_hasSample 2 (some .boolean), Cond.methodLink RL 152 yL_time, Cond.static yL_time, Cond.codeWith yL_time cL_time 4 (some .int) [(0, 9, 12, 21), (0, 9, 15, 46)], Cond.methodLink RL 51 yX9_time, Cond.instanceMethod yX9_time, Cond.selects RX9 yX9_time yX9_time, Cond.code yX9_time cX9_time 2 (some .int), Cond.methodLink RL 154 yX10_time, Cond.instanceMethod yX10_time, Cond.selects RX10 yX10_time yX10_time, Cond.code yX10_time cX10_time 2 (some .int), Cond.methodLink RL 155 yL_samples, Cond.static yL_samples, Cond.codeWith yL_samples cL_samples 4 (some .int) [(0, 9, 12, 21)], Cond.methodLink RL 54 yX9_samples]
def wsL_law0_r27 : List Cond := [Cond.instanceMethod yX9_samples, Cond.selects RX9 yX9_samples yX9_samples, Cond.code yX9_samples cX9_samples 2 (some .int), Cond.methodLink RL 157 yX10_samples, Cond.instanceMethod yX10_samples, Cond.selects RX10 yX10_samples yX10_samples, Cond.code yX10_samples cX10_samples 2 (some .int), Cond.methodLink RL 158 yL_missing, Cond.static yL_missing, Cond.codeWith yL_missing cL_missing 4 (some .int) [(0, 9, 12, 21)], Cond.methodLink RL 57 yX9_missing, Cond.instanceMethod yX9_missing, Cond.selects RX9 yX9_missing yX9_missing, Cond.code yX9_missing cX9_missing 2 (some .int), Cond.methodLink RL 160 yX10_missing, Cond.instanceMethod yX10_missing, Cond.selects RX10 yX10_missing yX10_missing, Cond.code yX10_missing cX10_missing 2 (some .int), Cond.methodLink RL 161 yL_derive, Cond.static yL_derive, Cond.codeWith yL_derive cL_derive 6 (some .int) [(0, 9, 12, 13), (0, 9, 16, 15)], Cond.methodLink RL 60 yX9_derive, Cond.instanceMethod yX9_derive, Cond.selects RX9 yX9_derive yX9_derive]
def wsL_law0_r28 : List Cond := [Cond.code yX9_derive cX9_derive 5 none, Cond.methodLink RX9 181 yX9_isDerived, Cond.static yX9_isDerived, Cond.code yX9_isDerived cX9_isDerived 1 (some .boolean), Cond.methodLink RX9 184 yX9_isOperand, Cond.static yX9_isOperand, Cond.code yX9_isOperand cX9_isOperand 1 (some .boolean), Cond.methodLink RX9 187 yX2_wouldNeedItself, Cond.instanceMethod yX2_wouldNeedItself, Cond.selects RX2 yX2_wouldNeedItself yX2_wouldNeedItself, Cond.code yX2_wouldNeedItself cX2_wouldNeedItself 6 (some .boolean), Cond.methodLink RX2 36 yX2_operandMask, Cond.static yX2_operandMask, Cond.code yX2_operandMask cX2_operandMask 1 (some .int), Cond.methodLink RX2 40 yX2_needsOf, Cond.instanceMethod yX2_needsOf, Cond.selects RX2 yX2_needsOf yX2_needsOf, Cond.code yX2_needsOf cX2_needsOf 5 (some .int), Cond.methodLink RX9 191 yX2_define, Cond.instanceMethod yX2_define, Cond.selects RX2 yX2_define yX2_define, Cond.code yX2_define cX2_define 6 none, Cond.methodLink RX2 18 yX2_at, Cond.instanceMethod yX2_at]
def wsL_law0_r29 : List Cond := [Cond.selects RX2 yX2_at yX2_at, Cond.code yX2_at cX2_at 2 (some (.object "Commutator$Derived")), Cond.methodLink RL 164 yX10_derive, Cond.instanceMethod yX10_derive, Cond.selects RX10 yX10_derive yX10_derive, Cond.code yX10_derive cX10_derive 6 none, Cond.methodLink RX10 181 yX10_isOperand, Cond.static yX10_isOperand, Cond.code yX10_isOperand cX10_isOperand 1 (some .boolean), Cond.methodLink RX10 184 yX10_comesTo, Cond.instanceMethod yX10_comesTo, Cond.selects RX10 yX10_comesTo yX10_comesTo, Cond.code yX10_comesTo cX10_comesTo 7 (some .boolean), Cond.methodLink RL 165 yL_derivedValue, Cond.static yL_derivedValue, Cond.codeWith yL_derivedValue cL_derivedValue 4 (some .int) [(0, 9, 12, 13), (0, 9, 15, 46)], Cond.methodLink RL 64 yX9_derivedValue, Cond.instanceMethod yX9_derivedValue, Cond.selects RX9 yX9_derivedValue yX9_derivedValue, Cond.code yX9_derivedValue cX9_derivedValue 2 (some .int), Cond.methodLink RX9 195 yX9_resultOf, Cond.instanceMethod yX9_resultOf, Cond.selects RX9 yX9_resultOf yX9_resultOf, Cond.code yX9_resultOf cX9_resultOf 3 (some (.object "Commutator$Reading"))]
def wsL_law0_r30 : List Cond := [Cond.methodLink RX9 212 yX2_compute, Cond.instanceMethod yX2_compute, Cond.selects RX2 yX2_compute yX2_compute, Cond.code yX2_compute cX2_compute 5 (some (.object "Commutator$Reading")), Cond.methodLink RX2 47 yX6_forget, Cond.instanceMethod yX6_forget, Cond.selects RX6 yX6_forget yX6_forget, Cond.code yX6_forget cX6_forget 1 none, Cond.methodLink RX2 52 yX2_computeOne, Cond.instanceMethod yX2_computeOne, Cond.selects RX2 yX2_computeOne yX2_computeOne, Cond.code yX2_computeOne cX2_computeOne 5 none, Cond.methodLink RX2 59 yX2_operand, Cond.instanceMethod yX2_operand, Cond.selects RX2 yX2_operand yX2_operand, Cond.code yX2_operand cX2_operand 4 (some (.object "Commutator$Reading")), Cond.methodLink RX2 67 yX5_at, Cond.methodLink RX2 63 yX1_combine, Cond.instanceMethod yX1_combine, Cond.selects RX1 yX1_combine yX1_combine, Cond.code yX1_combine cX1_combine 4 none, Cond.constantLong RX1 16 (-1000000), Cond.constantLong RX1 18 (1000000), Cond.methodLink RX1 28 Lib.MathLoose.min_long.x]
def wsL_law0_r31 : List Cond := [Cond.static Lib.MathLoose.min_long.x, Cond.code Lib.MathLoose.min_long.x Lib.MathLoose.min_long.code 4 (some .long), Cond.methodLink RX1 33 Lib.MathLoose.max_long.x, Cond.static Lib.MathLoose.max_long.x, Cond.code Lib.MathLoose.max_long.x Lib.MathLoose.max_long.code 4 (some .long), Cond.methodLink RX1 39 Lib.Math.max.name, Cond.static Lib.Math.max.name, Cond.code Lib.Math.max.name Lib.Math.max.code 2 (some .int), Cond.methodLink RX1 24 yX1_operate, Cond.instanceMethod yX1_operate, Cond.selects RX1 yX1_operate yX1_operate, Cond.code yX1_operate cX1_operate 5 (some .long), Cond.fieldLink RX1 46 "Commutator$Derived" "operation" "I", Cond.methodLink RX1 42 yX6_set, Cond.methodLink RL 167 yX10_derivedValue, Cond.instanceMethod yX10_derivedValue, Cond.selects RX10 yX10_derivedValue yX10_derivedValue, Cond.code yX10_derivedValue cX10_derivedValue 2 (some .int), Cond.methodLink RX10 207 yX10_isDerived, Cond.instanceMethod yX10_isDerived, Cond.selects RX10 yX10_isDerived yX10_isDerived, Cond.code yX10_isDerived cX10_isDerived 2 (some .boolean), Cond.methodLink RX10 204 yX10_derives, Cond.instanceMethod yX10_derives]
def wsL_law0_r32 : List Cond := [Cond.selects RX10 yX10_derives yX10_derives, Cond.code yX10_derives cX10_derives 3 none, Cond.methodLink RX10 191 yX10_hasValue, Cond.instanceMethod yX10_hasValue, Cond.selects RX10 yX10_hasValue yX10_hasValue, Cond.code yX10_hasValue cX10_hasValue 2 (some .boolean), Cond.methodLink RX10 194 yX10_valueOf, Cond.instanceMethod yX10_valueOf, Cond.selects RX10 yX10_valueOf yX10_valueOf, Cond.code yX10_valueOf cX10_valueOf 2 (some .int), Cond.methodLink RX10 197 yX10_made, Cond.static yX10_made, Cond.code yX10_made cX10_made 7 (some .int), Cond.constantLong RX10 187 (1000000), Cond.constantLong RX10 189 (-1000000), Cond.methodLink RX10 201 yX10_timeOf, Cond.instanceMethod yX10_timeOf, Cond.selects RX10 yX10_timeOf yX10_timeOf, Cond.code yX10_timeOf cX10_timeOf 2 (some .int), Cond.methodLink RL 168 yL_derivedTime, Cond.static yL_derivedTime, Cond.codeWith yL_derivedTime cL_derivedTime 4 (some .int) [(0, 9, 12, 13), (0, 9, 15, 46)], Cond.methodLink RL 67 yX9_derivedTime, Cond.instanceMethod yX9_derivedTime]
def wsL_law0_r33 : List Cond := [Cond.selects RX9 yX9_derivedTime yX9_derivedTime, Cond.code yX9_derivedTime cX9_derivedTime 2 (some .int), Cond.methodLink RL 170 yX10_derivedTime, Cond.instanceMethod yX10_derivedTime, Cond.selects RX10 yX10_derivedTime yX10_derivedTime, Cond.code yX10_derivedTime cX10_derivedTime 2 (some .int), Cond.methodLink RL 171 yL_matches, Cond.static yL_matches, Cond.codeWith yL_matches cL_matches 4 (some .int) [(0, 9, 12, 13)], Cond.methodLink RL 70 yX9_matches, Cond.instanceMethod yX9_matches, Cond.selects RX9 yX9_matches yX9_matches, Cond.code yX9_matches cX9_matches 2 (some .int), Cond.methodLink RX9 199 yX8_syncWordsAt, Cond.instanceMethod yX8_syncWordsAt, Cond.selects RX8 yX8_syncWordsAt yX8_syncWordsAt, Cond.code yX8_syncWordsAt cX8_syncWordsAt 2 (some .int), Cond.methodLink RL 173 yX10_matches, Cond.instanceMethod yX10_matches, Cond.selects RX10 yX10_matches yX10_matches, Cond.code yX10_matches cX10_matches 2 (some .int), Cond.methodLink RX10 210 yX10_matchesAt, Cond.instanceMethod yX10_matchesAt, Cond.selects RX10 yX10_matchesAt yX10_matchesAt]
def wsL_law0_r34 : List Cond := [Cond.code yX10_matchesAt cX10_matchesAt 4 (some .int), Cond.methodLink RL 174 yX9_bestOffset, Cond.instanceMethod yX9_bestOffset, Cond.selects RX9 yX9_bestOffset yX9_bestOffset, Cond.code yX9_bestOffset cX9_bestOffset 3 (some .int), Cond.methodLink RL 177 yX10_bestOffset, Cond.instanceMethod yX10_bestOffset, Cond.selects RX10 yX10_bestOffset yX10_bestOffset, Cond.code yX10_bestOffset cX10_bestOffset 3 (some .int)]
def wsL_law0 : List Cond := (wsL_law0_r1 ++ (wsL_law0_r2 ++ (wsL_law0_r3 ++ (wsL_law0_r4 ++ (wsL_law0_r5 ++ (wsL_law0_r6 ++ (wsL_law0_r7 ++ (wsL_law0_r8 ++ (wsL_law0_r9 ++ (wsL_law0_r10 ++ (wsL_law0_r11 ++ (wsL_law0_r12 ++ (wsL_law0_r13 ++ (wsL_law0_r14 ++ (wsL_law0_r15 ++ (wsL_law0_r16 ++ (wsL_law0_r17 ++ (wsL_law0_r18 ++ (wsL_law0_r19 ++ (wsL_law0_r20 ++ (wsL_law0_r21 ++ (wsL_law0_r22 ++ (wsL_law0_r23 ++ (wsL_law0_r24 ++ (wsL_law0_r25 ++ (wsL_law0_r26 ++ (wsL_law0_r27 ++ (wsL_law0_r28 ++ (wsL_law0_r29 ++ (wsL_law0_r30 ++ (wsL_law0_r31 ++ (wsL_law0_r32 ++ (wsL_law0_r33 ++ wsL_law0_r34))))))))))))))))))))))))))))))))) ++ wsX90 ++ wsX100 ++ wsX50 ++ wsX30 ++ wsX70 ++ wsX80 ++ wsX00 ++ wsX20 ++ wsX10 ++ wsX60 ++ wsX40 ++ ([] : List Cond)
def wsL_law : List Cond := wsL_law0 ++ (vx_at0 RX9 57 "java/lang/IllegalArgumentException" ["java/lang/RuntimeException", "java/lang/Exception"]).filter goodWord ++ (vx_at0 RX9 67 "java/lang/IllegalStateException" ["java/lang/RuntimeException", "java/lang/Exception"]).filter goodWord ++ (vx_at0 RX9 109 "java/lang/IndexOutOfBoundsException" ["java/lang/RuntimeException", "java/lang/Exception"]).filter goodWord ++ (vx_at0 RX9 159 "java/util/NoSuchElementException" ["java/lang/RuntimeException", "java/lang/Exception"]).filter goodWord
theorem inX0 : ∀ w ∈ wsX00, w ∈ lw_tbl := by decide +kernel
theorem inX1 : ∀ w ∈ wsX10, w ∈ lw_tbl := by decide +kernel
theorem inX2 : ∀ w ∈ wsX20, w ∈ lw_tbl := by decide +kernel
theorem inX3 : ∀ w ∈ wsX30, w ∈ lw_tbl := by decide +kernel
theorem inX4 : ∀ w ∈ wsX40, w ∈ lw_tbl := by decide +kernel
theorem inX5 : ∀ w ∈ wsX50, w ∈ lw_tbl := by decide +kernel
theorem inX6 : ∀ w ∈ wsX60, w ∈ lw_tbl := by decide +kernel
theorem inX7 : ∀ w ∈ wsX70, w ∈ lw_tbl := by decide +kernel
theorem inX8 : ∀ w ∈ wsX80, w ∈ lw_tbl := by decide +kernel
theorem inX9 : ∀ w ∈ wsX90, w ∈ lw_tbl := by decide +kernel
theorem inX10 : ∀ w ∈ wsX100, w ∈ lw_tbl := by decide +kernel
end
section
theorem dX0_init_0 : decode cX0_init 0 = .ok (.aload_n 0, 1) := by decide +kernel
theorem dX0_init_1 : decode cX0_init 1 = .ok (.invokespecial 3, 3) := by decide +kernel
theorem dX0_init_4 : decode cX0_init 4 = .ok (.return_, 1) := by decide +kernel
set_option maxRecDepth 20000 in
theorem ggX0_decode_X0_noteLost : GoodIn wsX0_decode wsX0_noteLost := goodIn_r _ [9, 10, 3, 11, 12, 13, 14, 15, 16, 17, 18, 19, 20, 21, 22, 23, 24, 25, 26, 27, 28, 29, 30, 31, 32, 33, 34, 72, 73, 74, 75, 76, 77, 78, 79, 80, 81, 82, 83, 84, 85, 86, 87, 88, 89] (by decide +kernel) (by decide +kernel)
set_option maxRecDepth 20000 in
theorem gX0_decode_X0_noteLost : GoodIn wsX0_decode (wsV RX0 24 RX0 yX0_noteLost wsX0_noteLost) := goodIn_app (goodIn_of _ (by decide +kernel)) ggX0_decode_X0_noteLost
set_option maxRecDepth 20000 in
theorem ggX0_decode_X0_giveSamples : GoodIn wsX0_decode wsX0_giveSamples := goodIn_r _ [38, 3, 2, 11, 12, 13, 14, 15, 16, 17, 18, 19, 20, 21, 22, 23, 24, 39, 40, 41, 42, 43, 44, 45, 30, 31, 32, 33, 34, 46, 47, 48, 49, 50, 51, 52, 53, 54, 55, 56, 57, 58, 59, 60, 61, 62, 63, 64, 65, 66, 67, 68, 69, 70, 71, 77, 78, 79, 72, 73, 74, 75, 76, 80, 81, 82, 83, 84, 85, 86, 87, 88, 89, 90, 91, 92] (by decide +kernel) (by decide +kernel)
set_option maxRecDepth 20000 in
theorem gX0_decode_X0_giveSamples : GoodIn wsX0_decode (wsV RX0 28 RX0 yX0_giveSamples wsX0_giveSamples) := goodIn_app (goodIn_of _ (by decide +kernel)) ggX0_decode_X0_giveSamples
theorem dX0_decode_0 : decode cX0_decode 0 = .ok (.lload_n 1, 1) := by decide +kernel
theorem dX0_decode_1 : decode cX0_decode 1 = .ok (.bipush 48, 2) := by decide +kernel
theorem dX0_decode_3 : decode cX0_decode 3 = .ok (.lushr, 1) := by decide +kernel
theorem dX0_decode_4 : decode cX0_decode 4 = .ok (.l2i, 1) := by decide +kernel
theorem dX0_decode_5 : decode cX0_decode 5 = .ok (.sipush 255, 3) := by decide +kernel
theorem dX0_decode_8 : decode cX0_decode 8 = .ok (.iand, 1) := by decide +kernel
theorem dX0_decode_9 : decode cX0_decode 9 = .ok (.istore 4, 2) := by decide +kernel
theorem dX0_decode_11 : decode cX0_decode 11 = .ok (.aload_n 0, 1) := by decide +kernel
theorem dX0_decode_12 : decode cX0_decode 12 = .ok (.getfield 9, 3) := by decide +kernel
theorem dX0_decode_15 : decode cX0_decode 15 = .ok (.ifCond .ne 12, 3) := by decide +kernel
theorem dX0_decode_18 : decode cX0_decode 18 = .ok (.aload_n 0, 1) := by decide +kernel
theorem dX0_decode_19 : decode cX0_decode 19 = .ok (.iload 4, 2) := by decide +kernel
theorem dX0_decode_21 : decode cX0_decode 21 = .ok (.putfield 15, 3) := by decide +kernel
theorem dX0_decode_24 : decode cX0_decode 24 = .ok (.goto 52, 3) := by decide +kernel
theorem dX0_decode_27 : decode cX0_decode 27 = .ok (.iload 4, 2) := by decide +kernel
theorem dX0_decode_29 : decode cX0_decode 29 = .ok (.aload_n 0, 1) := by decide +kernel
theorem dX0_decode_30 : decode cX0_decode 30 = .ok (.getfield 18, 3) := by decide +kernel
theorem dX0_decode_33 : decode cX0_decode 33 = .ok (.isub, 1) := by decide +kernel
theorem dX0_decode_34 : decode cX0_decode 34 = .ok (.sipush 255, 3) := by decide +kernel
theorem dX0_decode_37 : decode cX0_decode 37 = .ok (.iand, 1) := by decide +kernel
theorem dX0_decode_38 : decode cX0_decode 38 = .ok (.istore 5, 2) := by decide +kernel
theorem dX0_decode_40 : decode cX0_decode 40 = .ok (.iload 5, 2) := by decide +kernel
theorem dX0_decode_42 : decode cX0_decode 42 = .ok (.ifCond .ne 14, 3) := by decide +kernel
theorem dX0_decode_45 : decode cX0_decode 45 = .ok (.aload_n 0, 1) := by decide +kernel
theorem dX0_decode_46 : decode cX0_decode 46 = .ok (.dup, 1) := by decide +kernel
theorem dX0_decode_47 : decode cX0_decode 47 = .ok (.getfield 21, 3) := by decide +kernel
theorem dX0_decode_50 : decode cX0_decode 50 = .ok (.iconst 1, 1) := by decide +kernel
theorem dX0_decode_51 : decode cX0_decode 51 = .ok (.iadd, 1) := by decide +kernel
theorem dX0_decode_52 : decode cX0_decode 52 = .ok (.putfield 21, 3) := by decide +kernel
theorem dX0_decode_55 : decode cX0_decode 55 = .ok (.return_, 1) := by decide +kernel
theorem dX0_decode_56 : decode cX0_decode 56 = .ok (.aload_n 0, 1) := by decide +kernel
theorem dX0_decode_57 : decode cX0_decode 57 = .ok (.iload 5, 2) := by decide +kernel
theorem dX0_decode_59 : decode cX0_decode 59 = .ok (.iconst 1, 1) := by decide +kernel
theorem dX0_decode_60 : decode cX0_decode 60 = .ok (.isub, 1) := by decide +kernel
theorem dX0_decode_61 : decode cX0_decode 61 = .ok (.aload_n 3, 1) := by decide +kernel
theorem dX0_decode_62 : decode cX0_decode 62 = .ok (.invokevirtual 24, 3) := by decide +kernel
theorem dX0_decode_65 : decode cX0_decode 65 = .ok (.aload_n 0, 1) := by decide +kernel
theorem dX0_decode_66 : decode cX0_decode 66 = .ok (.dup, 1) := by decide +kernel
theorem dX0_decode_67 : decode cX0_decode 67 = .ok (.getfield 15, 3) := by decide +kernel
theorem dX0_decode_70 : decode cX0_decode 70 = .ok (.iload 5, 2) := by decide +kernel
theorem dX0_decode_72 : decode cX0_decode 72 = .ok (.iadd, 1) := by decide +kernel
theorem dX0_decode_73 : decode cX0_decode 73 = .ok (.putfield 15, 3) := by decide +kernel
theorem dX0_decode_76 : decode cX0_decode 76 = .ok (.aload_n 0, 1) := by decide +kernel
theorem dX0_decode_77 : decode cX0_decode 77 = .ok (.iload 4, 2) := by decide +kernel
theorem dX0_decode_79 : decode cX0_decode 79 = .ok (.putfield 18, 3) := by decide +kernel
theorem dX0_decode_82 : decode cX0_decode 82 = .ok (.aload_n 0, 1) := by decide +kernel
theorem dX0_decode_83 : decode cX0_decode 83 = .ok (.dup, 1) := by decide +kernel
theorem dX0_decode_84 : decode cX0_decode 84 = .ok (.getfield 9, 3) := by decide +kernel
theorem dX0_decode_87 : decode cX0_decode 87 = .ok (.iconst 1, 1) := by decide +kernel
theorem dX0_decode_88 : decode cX0_decode 88 = .ok (.iadd, 1) := by decide +kernel
theorem dX0_decode_89 : decode cX0_decode 89 = .ok (.putfield 9, 3) := by decide +kernel
theorem dX0_decode_92 : decode cX0_decode 92 = .ok (.aload_n 0, 1) := by decide +kernel
theorem dX0_decode_93 : decode cX0_decode 93 = .ok (.lload_n 1, 1) := by decide +kernel
theorem dX0_decode_94 : decode cX0_decode 94 = .ok (.aload_n 3, 1) := by decide +kernel
theorem dX0_decode_95 : decode cX0_decode 95 = .ok (.invokevirtual 28, 3) := by decide +kernel
theorem dX0_decode_98 : decode cX0_decode 98 = .ok (.return_, 1) := by decide +kernel
set_option maxRecDepth 20000 in
theorem ggX0_noteLost_X5_at : GoodIn wsX0_noteLost wsX5_at := goodIn_r _ [7, 8, 9, 32, 33, 34] (by decide +kernel) (by decide +kernel)
set_option maxRecDepth 20000 in
theorem gX0_noteLost_X5_at : GoodIn wsX0_noteLost (wsV RX0 40 RX5 yX5_at wsX5_at) := goodIn_app (goodIn_of _ (by decide +kernel)) ggX0_noteLost_X5_at
set_option maxRecDepth 20000 in
theorem ggX0_noteLost_X4_isSentIn : GoodIn wsX0_noteLost wsX4_isSentIn := goodIn_r _ [14, 15, 16, 35, 36, 37, 38, 39, 40, 41, 42, 43, 44] (by decide +kernel) (by decide +kernel)
set_option maxRecDepth 20000 in
theorem gX0_noteLost_X4_isSentIn : GoodIn wsX0_noteLost (wsV RX0 44 RX4 yX4_isSentIn wsX4_isSentIn) := goodIn_app (goodIn_of _ (by decide +kernel)) ggX0_noteLost_X4_isSentIn
set_option maxRecDepth 20000 in
theorem ggX0_noteLost_X4_noteMissing : GoodIn wsX0_noteLost wsX4_noteMissing := goodIn_r _ [20, 21, 22, 23, 24, 13, 25, 26, 35, 36, 37, 38, 39, 40, 41, 42, 43, 44] (by decide +kernel) (by decide +kernel)
set_option maxRecDepth 20000 in
theorem gX0_noteLost_X4_noteMissing : GoodIn wsX0_noteLost (wsV RX0 50 RX4 yX4_noteMissing wsX4_noteMissing) := goodIn_app (goodIn_of _ (by decide +kernel)) ggX0_noteLost_X4_noteMissing
theorem dX0_noteLost_0 : decode cX0_noteLost 0 = .ok (.aload_n 0, 1) := by decide +kernel
theorem dX0_noteLost_1 : decode cX0_noteLost 1 = .ok (.dup, 1) := by decide +kernel
theorem dX0_noteLost_2 : decode cX0_noteLost 2 = .ok (.getfield 32, 3) := by decide +kernel
theorem dX0_noteLost_5 : decode cX0_noteLost 5 = .ok (.iload_n 1, 1) := by decide +kernel
theorem dX0_noteLost_6 : decode cX0_noteLost 6 = .ok (.iadd, 1) := by decide +kernel
theorem dX0_noteLost_7 : decode cX0_noteLost 7 = .ok (.putfield 32, 3) := by decide +kernel
theorem dX0_noteLost_10 : decode cX0_noteLost 10 = .ok (.iconst 1, 1) := by decide +kernel
theorem dX0_noteLost_11 : decode cX0_noteLost 11 = .ok (.istore_n 3, 1) := by decide +kernel
theorem dX0_noteLost_12 : decode cX0_noteLost 12 = .ok (.iload_n 3, 1) := by decide +kernel
theorem dX0_noteLost_13 : decode cX0_noteLost 13 = .ok (.iload_n 1, 1) := by decide +kernel
theorem dX0_noteLost_14 : decode cX0_noteLost 14 = .ok (.if_icmp .gt 63, 3) := by decide +kernel
theorem dX0_noteLost_17 : decode cX0_noteLost 17 = .ok (.iconst 0, 1) := by decide +kernel
theorem dX0_noteLost_18 : decode cX0_noteLost 18 = .ok (.istore 4, 2) := by decide +kernel
theorem dX0_noteLost_20 : decode cX0_noteLost 20 = .ok (.iload 4, 2) := by decide +kernel
theorem dX0_noteLost_22 : decode cX0_noteLost 22 = .ok (.aload_n 2, 1) := by decide +kernel
theorem dX0_noteLost_23 : decode cX0_noteLost 23 = .ok (.getfield 35, 3) := by decide +kernel
theorem dX0_noteLost_26 : decode cX0_noteLost 26 = .ok (.if_icmp .ge 45, 3) := by decide +kernel
theorem dX0_noteLost_29 : decode cX0_noteLost 29 = .ok (.aload_n 2, 1) := by decide +kernel
theorem dX0_noteLost_30 : decode cX0_noteLost 30 = .ok (.iload 4, 2) := by decide +kernel
theorem dX0_noteLost_32 : decode cX0_noteLost 32 = .ok (.invokevirtual 40, 3) := by decide +kernel
theorem dX0_noteLost_35 : decode cX0_noteLost 35 = .ok (.astore 5, 2) := by decide +kernel
theorem dX0_noteLost_37 : decode cX0_noteLost 37 = .ok (.aload 5, 2) := by decide +kernel
theorem dX0_noteLost_39 : decode cX0_noteLost 39 = .ok (.ifnull 26, 3) := by decide +kernel
theorem dX0_noteLost_42 : decode cX0_noteLost 42 = .ok (.aload 5, 2) := by decide +kernel
theorem dX0_noteLost_44 : decode cX0_noteLost 44 = .ok (.aload_n 0, 1) := by decide +kernel
theorem dX0_noteLost_45 : decode cX0_noteLost 45 = .ok (.getfield 18, 3) := by decide +kernel
theorem dX0_noteLost_48 : decode cX0_noteLost 48 = .ok (.iload_n 3, 1) := by decide +kernel
theorem dX0_noteLost_49 : decode cX0_noteLost 49 = .ok (.iadd, 1) := by decide +kernel
theorem dX0_noteLost_50 : decode cX0_noteLost 50 = .ok (.sipush 255, 3) := by decide +kernel
theorem dX0_noteLost_53 : decode cX0_noteLost 53 = .ok (.iand, 1) := by decide +kernel
theorem dX0_noteLost_54 : decode cX0_noteLost 54 = .ok (.invokevirtual 44, 3) := by decide +kernel
theorem dX0_noteLost_57 : decode cX0_noteLost 57 = .ok (.ifCond .eq 8, 3) := by decide +kernel
theorem dX0_noteLost_60 : decode cX0_noteLost 60 = .ok (.aload 5, 2) := by decide +kernel
theorem dX0_noteLost_62 : decode cX0_noteLost 62 = .ok (.invokevirtual 50, 3) := by decide +kernel
theorem dX0_noteLost_65 : decode cX0_noteLost 65 = .ok (.iinc 4 1, 3) := by decide +kernel
theorem dX0_noteLost_68 : decode cX0_noteLost 68 = .ok (.goto (-48), 3) := by decide +kernel
theorem dX0_noteLost_71 : decode cX0_noteLost 71 = .ok (.iinc 3 1, 3) := by decide +kernel
theorem dX0_noteLost_74 : decode cX0_noteLost 74 = .ok (.goto (-62), 3) := by decide +kernel
theorem dX0_noteLost_77 : decode cX0_noteLost 77 = .ok (.return_, 1) := by decide +kernel
set_option maxRecDepth 20000 in
theorem ggX0_giveSamples_X5_at : GoodIn wsX0_giveSamples wsX5_at := goodIn_r _ [7, 8, 9, 55, 56, 57] (by decide +kernel) (by decide +kernel)
set_option maxRecDepth 20000 in
theorem gX0_giveSamples_X5_at : GoodIn wsX0_giveSamples (wsV RX0 40 RX5 yX5_at wsX5_at) := goodIn_app (goodIn_of _ (by decide +kernel)) ggX0_giveSamples_X5_at
set_option maxRecDepth 20000 in
theorem ggX0_giveSamples_X4_isSentIn : GoodIn wsX0_giveSamples wsX4_isSentIn := goodIn_r _ [14, 15, 16, 63, 64, 65, 66, 67, 68, 69, 70, 71, 72] (by decide +kernel) (by decide +kernel)
set_option maxRecDepth 20000 in
theorem gX0_giveSamples_X4_isSentIn : GoodIn wsX0_giveSamples (wsV RX0 44 RX4 yX4_isSentIn wsX4_isSentIn) := goodIn_app (goodIn_of _ (by decide +kernel)) ggX0_giveSamples_X4_isSentIn
set_option maxRecDepth 20000 in
theorem ggX0_giveSamples_X4_readFrom : GoodIn wsX0_giveSamples wsX4_readFrom := goodIn_r _ [20, 21, 22, 23, 24, 25, 26, 13, 27, 28, 29, 30, 31, 32, 33, 34, 35, 36, 37, 38, 39, 40, 41, 42, 43, 44, 45, 46, 47, 48, 49, 50, 51, 52, 53, 54, 63, 64, 65, 66, 67, 68, 69, 70, 71, 72, 73, 74, 75] (by decide +kernel) (by decide +kernel)
set_option maxRecDepth 20000 in
theorem gX0_giveSamples_X4_readFrom : GoodIn wsX0_giveSamples (wsV RX0 53 RX4 yX4_readFrom wsX4_readFrom) := goodIn_app (goodIn_of _ (by decide +kernel)) ggX0_giveSamples_X4_readFrom
theorem dX0_giveSamples_0 : decode cX0_giveSamples 0 = .ok (.iconst 0, 1) := by decide +kernel
theorem dX0_giveSamples_1 : decode cX0_giveSamples 1 = .ok (.istore 4, 2) := by decide +kernel
theorem dX0_giveSamples_3 : decode cX0_giveSamples 3 = .ok (.iload 4, 2) := by decide +kernel
theorem dX0_giveSamples_5 : decode cX0_giveSamples 5 = .ok (.aload_n 3, 1) := by decide +kernel
theorem dX0_giveSamples_6 : decode cX0_giveSamples 6 = .ok (.getfield 35, 3) := by decide +kernel
theorem dX0_giveSamples_9 : decode cX0_giveSamples 9 = .ok (.if_icmp .ge 44, 3) := by decide +kernel
theorem dX0_giveSamples_12 : decode cX0_giveSamples 12 = .ok (.aload_n 3, 1) := by decide +kernel
theorem dX0_giveSamples_13 : decode cX0_giveSamples 13 = .ok (.iload 4, 2) := by decide +kernel
theorem dX0_giveSamples_15 : decode cX0_giveSamples 15 = .ok (.invokevirtual 40, 3) := by decide +kernel
theorem dX0_giveSamples_18 : decode cX0_giveSamples 18 = .ok (.astore 5, 2) := by decide +kernel
theorem dX0_giveSamples_20 : decode cX0_giveSamples 20 = .ok (.aload 5, 2) := by decide +kernel
theorem dX0_giveSamples_22 : decode cX0_giveSamples 22 = .ok (.ifnull 25, 3) := by decide +kernel
theorem dX0_giveSamples_25 : decode cX0_giveSamples 25 = .ok (.aload 5, 2) := by decide +kernel
theorem dX0_giveSamples_27 : decode cX0_giveSamples 27 = .ok (.aload_n 0, 1) := by decide +kernel
theorem dX0_giveSamples_28 : decode cX0_giveSamples 28 = .ok (.getfield 18, 3) := by decide +kernel
theorem dX0_giveSamples_31 : decode cX0_giveSamples 31 = .ok (.invokevirtual 44, 3) := by decide +kernel
theorem dX0_giveSamples_34 : decode cX0_giveSamples 34 = .ok (.ifCond .eq 13, 3) := by decide +kernel
theorem dX0_giveSamples_37 : decode cX0_giveSamples 37 = .ok (.aload 5, 2) := by decide +kernel
theorem dX0_giveSamples_39 : decode cX0_giveSamples 39 = .ok (.lload_n 1, 1) := by decide +kernel
theorem dX0_giveSamples_40 : decode cX0_giveSamples 40 = .ok (.aload_n 0, 1) := by decide +kernel
theorem dX0_giveSamples_41 : decode cX0_giveSamples 41 = .ok (.getfield 15, 3) := by decide +kernel
theorem dX0_giveSamples_44 : decode cX0_giveSamples 44 = .ok (.invokevirtual 53, 3) := by decide +kernel
theorem dX0_giveSamples_47 : decode cX0_giveSamples 47 = .ok (.iinc 4 1, 3) := by decide +kernel
theorem dX0_giveSamples_50 : decode cX0_giveSamples 50 = .ok (.goto (-47), 3) := by decide +kernel
theorem dX0_giveSamples_53 : decode cX0_giveSamples 53 = .ok (.return_, 1) := by decide +kernel
set_option maxRecDepth 20000 in
theorem ggX1_init_X6_init : GoodIn wsX1_init wsX6_init := goodIn_r _ [9, 10, 2, 3] (by decide +kernel) (by decide +kernel)
set_option maxRecDepth 20000 in
theorem gX1_init_X6_init_n9 : GoodIn wsX1_init (wsX6_init) := ggX1_init_X6_init
theorem dX1_init_0 : decode cX1_init 0 = .ok (.aload_n 0, 1) := by decide +kernel
theorem dX1_init_1 : decode cX1_init 1 = .ok (.invokespecial 1, 3) := by decide +kernel
theorem dX1_init_4 : decode cX1_init 4 = .ok (.aload_n 0, 1) := by decide +kernel
theorem dX1_init_5 : decode cX1_init 5 = .ok (.new 7, 3) := by decide +kernel
theorem dX1_init_8 : decode cX1_init 8 = .ok (.dup, 1) := by decide +kernel
theorem dX1_init_9 : decode cX1_init 9 = .ok (.invokespecial 9, 3) := by decide +kernel
theorem dX1_init_12 : decode cX1_init 12 = .ok (.putfield 10, 3) := by decide +kernel
theorem dX1_init_15 : decode cX1_init 15 = .ok (.return_, 1) := by decide +kernel
set_option maxRecDepth 20000 in
theorem ggX1_combine_X1_operate : GoodIn wsX1_combine wsX1_operate := goodIn_r _ [18, 19, 7, 8, 5, 9, 3, 4, 6, 31, 32, 33, 34, 35] (by decide +kernel) (by decide +kernel)
set_option maxRecDepth 20000 in
theorem gX1_combine_X1_operate : GoodIn wsX1_combine (wsV RX1 24 RX1 yX1_operate wsX1_operate) := goodIn_app (goodIn_of _ (by decide +kernel)) ggX1_combine_X1_operate
set_option maxRecDepth 20000 in
theorem ggX1_combine_X6_set : GoodIn wsX1_combine wsX6_set := goodIn_r _ [24, 25, 26, 27, 28, 29, 30] (by decide +kernel) (by decide +kernel)
set_option maxRecDepth 20000 in
theorem gX1_combine_X6_set : GoodIn wsX1_combine (wsV RX1 42 RX6 yX6_set wsX6_set) := goodIn_app (goodIn_of _ (by decide +kernel)) ggX1_combine_X6_set
theorem dX1_combine_0 : decode cX1_combine 0 = .ok (.ldc2_w 16, 3) := by decide +kernel
theorem dX1_combine_3 : decode cX1_combine 3 = .ok (.ldc2_w 18, 3) := by decide +kernel
theorem dX1_combine_6 : decode cX1_combine 6 = .ok (.aload_n 0, 1) := by decide +kernel
theorem dX1_combine_7 : decode cX1_combine 7 = .ok (.aload_n 1, 1) := by decide +kernel
theorem dX1_combine_8 : decode cX1_combine 8 = .ok (.getfield 20, 3) := by decide +kernel
theorem dX1_combine_11 : decode cX1_combine 11 = .ok (.i2l, 1) := by decide +kernel
theorem dX1_combine_12 : decode cX1_combine 12 = .ok (.aload_n 2, 1) := by decide +kernel
theorem dX1_combine_13 : decode cX1_combine 13 = .ok (.getfield 20, 3) := by decide +kernel
theorem dX1_combine_16 : decode cX1_combine 16 = .ok (.i2l, 1) := by decide +kernel
theorem dX1_combine_17 : decode cX1_combine 17 = .ok (.invokevirtual 24, 3) := by decide +kernel
theorem dX1_combine_20 : decode cX1_combine 20 = .ok (.invokestatic 28, 3) := by decide +kernel
theorem dX1_combine_23 : decode cX1_combine 23 = .ok (.invokestatic 33, 3) := by decide +kernel
theorem dX1_combine_26 : decode cX1_combine 26 = .ok (.l2i, 1) := by decide +kernel
theorem dX1_combine_27 : decode cX1_combine 27 = .ok (.istore_n 3, 1) := by decide +kernel
theorem dX1_combine_28 : decode cX1_combine 28 = .ok (.aload_n 0, 1) := by decide +kernel
theorem dX1_combine_29 : decode cX1_combine 29 = .ok (.getfield 10, 3) := by decide +kernel
theorem dX1_combine_32 : decode cX1_combine 32 = .ok (.iload_n 3, 1) := by decide +kernel
theorem dX1_combine_33 : decode cX1_combine 33 = .ok (.aload_n 1, 1) := by decide +kernel
theorem dX1_combine_34 : decode cX1_combine 34 = .ok (.getfield 36, 3) := by decide +kernel
theorem dX1_combine_37 : decode cX1_combine 37 = .ok (.aload_n 2, 1) := by decide +kernel
theorem dX1_combine_38 : decode cX1_combine 38 = .ok (.getfield 36, 3) := by decide +kernel
theorem dX1_combine_41 : decode cX1_combine 41 = .ok (.invokestatic 39, 3) := by decide +kernel
theorem dX1_combine_44 : decode cX1_combine 44 = .ok (.invokevirtual 42, 3) := by decide +kernel
theorem dX1_combine_47 : decode cX1_combine 47 = .ok (.return_, 1) := by decide +kernel
theorem dX1_operate_0 : decode cX1_operate 0 = .ok (.aload_n 0, 1) := by decide +kernel
theorem dX1_operate_1 : decode cX1_operate 1 = .ok (.getfield 46, 3) := by decide +kernel
theorem dX1_operate_4 : decode cX1_operate 4 = .ok (.tableswitch 50 0 3 #[32, 36, 40, 44], 32) := by decide +kernel
theorem dX1_operate_36 : decode cX1_operate 36 = .ok (.lload_n 1, 1) := by decide +kernel
theorem dX1_operate_37 : decode cX1_operate 37 = .ok (.lload_n 3, 1) := by decide +kernel
theorem dX1_operate_38 : decode cX1_operate 38 = .ok (.ladd, 1) := by decide +kernel
theorem dX1_operate_39 : decode cX1_operate 39 = .ok (.lreturn, 1) := by decide +kernel
theorem dX1_operate_40 : decode cX1_operate 40 = .ok (.lload_n 1, 1) := by decide +kernel
theorem dX1_operate_41 : decode cX1_operate 41 = .ok (.lload_n 3, 1) := by decide +kernel
theorem dX1_operate_42 : decode cX1_operate 42 = .ok (.lsub, 1) := by decide +kernel
theorem dX1_operate_43 : decode cX1_operate 43 = .ok (.lreturn, 1) := by decide +kernel
theorem dX1_operate_44 : decode cX1_operate 44 = .ok (.lload_n 1, 1) := by decide +kernel
theorem dX1_operate_45 : decode cX1_operate 45 = .ok (.lload_n 3, 1) := by decide +kernel
theorem dX1_operate_46 : decode cX1_operate 46 = .ok (.lmul, 1) := by decide +kernel
theorem dX1_operate_47 : decode cX1_operate 47 = .ok (.lreturn, 1) := by decide +kernel
theorem dX1_operate_48 : decode cX1_operate 48 = .ok (.lload_n 1, 1) := by decide +kernel
theorem dX1_operate_49 : decode cX1_operate 49 = .ok (.lload_n 3, 1) := by decide +kernel
theorem dX1_operate_50 : decode cX1_operate 50 = .ok (.invokestatic 33, 3) := by decide +kernel
theorem dX1_operate_53 : decode cX1_operate 53 = .ok (.lreturn, 1) := by decide +kernel
theorem dX1_operate_54 : decode cX1_operate 54 = .ok (.lload_n 1, 1) := by decide +kernel
theorem dX1_operate_55 : decode cX1_operate 55 = .ok (.lload_n 3, 1) := by decide +kernel
theorem dX1_operate_56 : decode cX1_operate 56 = .ok (.invokestatic 28, 3) := by decide +kernel
theorem dX1_operate_59 : decode cX1_operate 59 = .ok (.lreturn, 1) := by decide +kernel
set_option maxRecDepth 20000 in
theorem ggX2_init_X1_init : GoodIn wsX2_init wsX1_init := goodIn_r _ [9, 10, 2, 3, 11, 12, 13, 14, 15, 16, 17, 24, 25, 26, 19, 20, 21, 22, 23] (by decide +kernel) (by decide +kernel)
set_option maxRecDepth 20000 in
theorem gX2_init_X1_init_n17 : GoodIn wsX2_init (wsX1_init) := ggX2_init_X1_init
theorem dX2_init_0 : decode cX2_init 0 = .ok (.aload_n 0, 1) := by decide +kernel
theorem dX2_init_1 : decode cX2_init 1 = .ok (.invokespecial 3, 3) := by decide +kernel
theorem dX2_init_4 : decode cX2_init 4 = .ok (.aload_n 0, 1) := by decide +kernel
theorem dX2_init_5 : decode cX2_init 5 = .ok (.bipush 8, 2) := by decide +kernel
theorem dX2_init_7 : decode cX2_init 7 = .ok (.anewarray 9, 3) := by decide +kernel
theorem dX2_init_10 : decode cX2_init 10 = .ok (.putfield 11, 3) := by decide +kernel
theorem dX2_init_13 : decode cX2_init 13 = .ok (.iconst 0, 1) := by decide +kernel
theorem dX2_init_14 : decode cX2_init 14 = .ok (.istore_n 1, 1) := by decide +kernel
theorem dX2_init_15 : decode cX2_init 15 = .ok (.iload_n 1, 1) := by decide +kernel
theorem dX2_init_16 : decode cX2_init 16 = .ok (.aload_n 0, 1) := by decide +kernel
theorem dX2_init_17 : decode cX2_init 17 = .ok (.getfield 11, 3) := by decide +kernel
theorem dX2_init_20 : decode cX2_init 20 = .ok (.arraylength, 1) := by decide +kernel
theorem dX2_init_21 : decode cX2_init 21 = .ok (.if_icmp .ge 22, 3) := by decide +kernel
theorem dX2_init_24 : decode cX2_init 24 = .ok (.aload_n 0, 1) := by decide +kernel
theorem dX2_init_25 : decode cX2_init 25 = .ok (.getfield 11, 3) := by decide +kernel
theorem dX2_init_28 : decode cX2_init 28 = .ok (.iload_n 1, 1) := by decide +kernel
theorem dX2_init_29 : decode cX2_init 29 = .ok (.new 9, 3) := by decide +kernel
theorem dX2_init_32 : decode cX2_init 32 = .ok (.dup, 1) := by decide +kernel
theorem dX2_init_33 : decode cX2_init 33 = .ok (.invokespecial 17, 3) := by decide +kernel
theorem dX2_init_36 : decode cX2_init 36 = .ok (.aastore, 1) := by decide +kernel
theorem dX2_init_37 : decode cX2_init 37 = .ok (.iinc 1 1, 3) := by decide +kernel
theorem dX2_init_40 : decode cX2_init 40 = .ok (.goto (-25), 3) := by decide +kernel
theorem dX2_init_43 : decode cX2_init 43 = .ok (.return_, 1) := by decide +kernel
set_option maxRecDepth 20000 in
theorem ggX2_define_X2_at : GoodIn wsX2_define wsX2_at := goodIn_r _ [5, 6, 12] (by decide +kernel) (by decide +kernel)
set_option maxRecDepth 20000 in
theorem gX2_define_X2_at : GoodIn wsX2_define (wsV RX2 18 RX2 yX2_at wsX2_at) := goodIn_app (goodIn_of _ (by decide +kernel)) ggX2_define_X2_at
theorem dX2_define_0 : decode cX2_define 0 = .ok (.aload_n 0, 1) := by decide +kernel
theorem dX2_define_1 : decode cX2_define 1 = .ok (.iload_n 1, 1) := by decide +kernel
theorem dX2_define_2 : decode cX2_define 2 = .ok (.invokevirtual 18, 3) := by decide +kernel
theorem dX2_define_5 : decode cX2_define 5 = .ok (.astore 5, 2) := by decide +kernel
theorem dX2_define_7 : decode cX2_define 7 = .ok (.aload 5, 2) := by decide +kernel
theorem dX2_define_9 : decode cX2_define 9 = .ok (.ifnonnull 4, 3) := by decide +kernel
theorem dX2_define_12 : decode cX2_define 12 = .ok (.return_, 1) := by decide +kernel
theorem dX2_define_13 : decode cX2_define 13 = .ok (.aload 5, 2) := by decide +kernel
theorem dX2_define_15 : decode cX2_define 15 = .ok (.iconst 1, 1) := by decide +kernel
theorem dX2_define_16 : decode cX2_define 16 = .ok (.putfield 22, 3) := by decide +kernel
theorem dX2_define_19 : decode cX2_define 19 = .ok (.aload 5, 2) := by decide +kernel
theorem dX2_define_21 : decode cX2_define 21 = .ok (.iload_n 2, 1) := by decide +kernel
theorem dX2_define_22 : decode cX2_define 22 = .ok (.putfield 26, 3) := by decide +kernel
theorem dX2_define_25 : decode cX2_define 25 = .ok (.aload 5, 2) := by decide +kernel
theorem dX2_define_27 : decode cX2_define 27 = .ok (.iload_n 3, 1) := by decide +kernel
theorem dX2_define_28 : decode cX2_define 28 = .ok (.putfield 30, 3) := by decide +kernel
theorem dX2_define_31 : decode cX2_define 31 = .ok (.aload 5, 2) := by decide +kernel
theorem dX2_define_33 : decode cX2_define 33 = .ok (.iload 4, 2) := by decide +kernel
theorem dX2_define_35 : decode cX2_define 35 = .ok (.putfield 33, 3) := by decide +kernel
theorem dX2_define_38 : decode cX2_define 38 = .ok (.return_, 1) := by decide +kernel
set_option maxRecDepth 20000 in
theorem ggX2_wouldNeedItself_X2_operandMask : GoodIn wsX2_wouldNeedItself wsX2_operandMask := goodIn_r _ [5] (by decide +kernel) (by decide +kernel)
set_option maxRecDepth 20000 in
theorem gX2_wouldNeedItself_X2_operandMask : GoodIn wsX2_wouldNeedItself (va_wsS RX2 36 yX2_operandMask wsX2_operandMask) := goodIn_app (goodIn_of _ (by decide +kernel)) ggX2_wouldNeedItself_X2_operandMask
set_option maxRecDepth 20000 in
theorem ggX2_wouldNeedItself_X2_needsOf : GoodIn wsX2_wouldNeedItself wsX2_needsOf := goodIn_r _ [9, 1, 2, 3, 4, 5, 10, 11, 12, 13, 14, 15] (by decide +kernel) (by decide +kernel)
set_option maxRecDepth 20000 in
theorem gX2_wouldNeedItself_X2_needsOf : GoodIn wsX2_wouldNeedItself (wsV RX2 40 RX2 yX2_needsOf wsX2_needsOf) := goodIn_app (goodIn_of _ (by decide +kernel)) ggX2_wouldNeedItself_X2_needsOf
theorem dX2_wouldNeedItself_0 : decode cX2_wouldNeedItself 0 = .ok (.iload_n 2, 1) := by decide +kernel
theorem dX2_wouldNeedItself_1 : decode cX2_wouldNeedItself 1 = .ok (.invokestatic 36, 3) := by decide +kernel
theorem dX2_wouldNeedItself_4 : decode cX2_wouldNeedItself 4 = .ok (.iload_n 3, 1) := by decide +kernel
theorem dX2_wouldNeedItself_5 : decode cX2_wouldNeedItself 5 = .ok (.invokestatic 36, 3) := by decide +kernel
theorem dX2_wouldNeedItself_8 : decode cX2_wouldNeedItself 8 = .ok (.ior, 1) := by decide +kernel
theorem dX2_wouldNeedItself_9 : decode cX2_wouldNeedItself 9 = .ok (.istore 4, 2) := by decide +kernel
theorem dX2_wouldNeedItself_11 : decode cX2_wouldNeedItself 11 = .ok (.iconst 0, 1) := by decide +kernel
theorem dX2_wouldNeedItself_12 : decode cX2_wouldNeedItself 12 = .ok (.istore 5, 2) := by decide +kernel
theorem dX2_wouldNeedItself_14 : decode cX2_wouldNeedItself 14 = .ok (.iload 5, 2) := by decide +kernel
theorem dX2_wouldNeedItself_16 : decode cX2_wouldNeedItself 16 = .ok (.aload_n 0, 1) := by decide +kernel
theorem dX2_wouldNeedItself_17 : decode cX2_wouldNeedItself 17 = .ok (.getfield 11, 3) := by decide +kernel
theorem dX2_wouldNeedItself_20 : decode cX2_wouldNeedItself 20 = .ok (.arraylength, 1) := by decide +kernel
theorem dX2_wouldNeedItself_21 : decode cX2_wouldNeedItself 21 = .ok (.if_icmp .ge 20, 3) := by decide +kernel
theorem dX2_wouldNeedItself_24 : decode cX2_wouldNeedItself 24 = .ok (.iload 4, 2) := by decide +kernel
theorem dX2_wouldNeedItself_26 : decode cX2_wouldNeedItself 26 = .ok (.aload_n 0, 1) := by decide +kernel
theorem dX2_wouldNeedItself_27 : decode cX2_wouldNeedItself 27 = .ok (.iload 4, 2) := by decide +kernel
theorem dX2_wouldNeedItself_29 : decode cX2_wouldNeedItself 29 = .ok (.invokevirtual 40, 3) := by decide +kernel
theorem dX2_wouldNeedItself_32 : decode cX2_wouldNeedItself 32 = .ok (.ior, 1) := by decide +kernel
theorem dX2_wouldNeedItself_33 : decode cX2_wouldNeedItself 33 = .ok (.istore 4, 2) := by decide +kernel
theorem dX2_wouldNeedItself_35 : decode cX2_wouldNeedItself 35 = .ok (.iinc 5 1, 3) := by decide +kernel
theorem dX2_wouldNeedItself_38 : decode cX2_wouldNeedItself 38 = .ok (.goto (-24), 3) := by decide +kernel
theorem dX2_wouldNeedItself_41 : decode cX2_wouldNeedItself 41 = .ok (.iload 4, 2) := by decide +kernel
theorem dX2_wouldNeedItself_43 : decode cX2_wouldNeedItself 43 = .ok (.iload_n 1, 1) := by decide +kernel
theorem dX2_wouldNeedItself_44 : decode cX2_wouldNeedItself 44 = .ok (.ishr, 1) := by decide +kernel
theorem dX2_wouldNeedItself_45 : decode cX2_wouldNeedItself 45 = .ok (.iconst 1, 1) := by decide +kernel
theorem dX2_wouldNeedItself_46 : decode cX2_wouldNeedItself 46 = .ok (.iand, 1) := by decide +kernel
theorem dX2_wouldNeedItself_47 : decode cX2_wouldNeedItself 47 = .ok (.ifCond .eq 7, 3) := by decide +kernel
theorem dX2_wouldNeedItself_50 : decode cX2_wouldNeedItself 50 = .ok (.iconst 1, 1) := by decide +kernel
theorem dX2_wouldNeedItself_51 : decode cX2_wouldNeedItself 51 = .ok (.goto 4, 3) := by decide +kernel
theorem dX2_wouldNeedItself_54 : decode cX2_wouldNeedItself 54 = .ok (.iconst 0, 1) := by decide +kernel
theorem dX2_wouldNeedItself_55 : decode cX2_wouldNeedItself 55 = .ok (.ireturn, 1) := by decide +kernel
set_option maxRecDepth 20000 in
theorem ggX2_needsOf_X2_operandMask : GoodIn wsX2_needsOf wsX2_operandMask := goodIn_r _ [5] (by decide +kernel) (by decide +kernel)
set_option maxRecDepth 20000 in
theorem gX2_needsOf_X2_operandMask : GoodIn wsX2_needsOf (va_wsS RX2 36 yX2_operandMask wsX2_operandMask) := goodIn_app (goodIn_of _ (by decide +kernel)) ggX2_needsOf_X2_operandMask
theorem dX2_needsOf_0 : decode cX2_needsOf 0 = .ok (.iconst 0, 1) := by decide +kernel
theorem dX2_needsOf_1 : decode cX2_needsOf 1 = .ok (.istore_n 2, 1) := by decide +kernel
theorem dX2_needsOf_2 : decode cX2_needsOf 2 = .ok (.iconst 0, 1) := by decide +kernel
theorem dX2_needsOf_3 : decode cX2_needsOf 3 = .ok (.istore_n 3, 1) := by decide +kernel
theorem dX2_needsOf_4 : decode cX2_needsOf 4 = .ok (.iload_n 3, 1) := by decide +kernel
theorem dX2_needsOf_5 : decode cX2_needsOf 5 = .ok (.aload_n 0, 1) := by decide +kernel
theorem dX2_needsOf_6 : decode cX2_needsOf 6 = .ok (.getfield 11, 3) := by decide +kernel
theorem dX2_needsOf_9 : decode cX2_needsOf 9 = .ok (.arraylength, 1) := by decide +kernel
theorem dX2_needsOf_10 : decode cX2_needsOf 10 = .ok (.if_icmp .ge 58, 3) := by decide +kernel
theorem dX2_needsOf_13 : decode cX2_needsOf 13 = .ok (.aload_n 0, 1) := by decide +kernel
theorem dX2_needsOf_14 : decode cX2_needsOf 14 = .ok (.getfield 11, 3) := by decide +kernel
theorem dX2_needsOf_17 : decode cX2_needsOf 17 = .ok (.iload_n 3, 1) := by decide +kernel
theorem dX2_needsOf_18 : decode cX2_needsOf 18 = .ok (.aaload, 1) := by decide +kernel
theorem dX2_needsOf_19 : decode cX2_needsOf 19 = .ok (.astore 4, 2) := by decide +kernel
theorem dX2_needsOf_21 : decode cX2_needsOf 21 = .ok (.aload 4, 2) := by decide +kernel
theorem dX2_needsOf_23 : decode cX2_needsOf 23 = .ok (.ifnull 39, 3) := by decide +kernel
theorem dX2_needsOf_26 : decode cX2_needsOf 26 = .ok (.aload 4, 2) := by decide +kernel
theorem dX2_needsOf_28 : decode cX2_needsOf 28 = .ok (.getfield 22, 3) := by decide +kernel
theorem dX2_needsOf_31 : decode cX2_needsOf 31 = .ok (.ifCond .eq 31, 3) := by decide +kernel
theorem dX2_needsOf_34 : decode cX2_needsOf 34 = .ok (.iload_n 1, 1) := by decide +kernel
theorem dX2_needsOf_35 : decode cX2_needsOf 35 = .ok (.iload_n 3, 1) := by decide +kernel
theorem dX2_needsOf_36 : decode cX2_needsOf 36 = .ok (.ishr, 1) := by decide +kernel
theorem dX2_needsOf_37 : decode cX2_needsOf 37 = .ok (.iconst 1, 1) := by decide +kernel
theorem dX2_needsOf_38 : decode cX2_needsOf 38 = .ok (.iand, 1) := by decide +kernel
theorem dX2_needsOf_39 : decode cX2_needsOf 39 = .ok (.ifCond .eq 23, 3) := by decide +kernel
theorem dX2_needsOf_42 : decode cX2_needsOf 42 = .ok (.iload_n 2, 1) := by decide +kernel
theorem dX2_needsOf_43 : decode cX2_needsOf 43 = .ok (.aload 4, 2) := by decide +kernel
theorem dX2_needsOf_45 : decode cX2_needsOf 45 = .ok (.getfield 30, 3) := by decide +kernel
theorem dX2_needsOf_48 : decode cX2_needsOf 48 = .ok (.invokestatic 36, 3) := by decide +kernel
theorem dX2_needsOf_51 : decode cX2_needsOf 51 = .ok (.aload 4, 2) := by decide +kernel
theorem dX2_needsOf_53 : decode cX2_needsOf 53 = .ok (.getfield 33, 3) := by decide +kernel
theorem dX2_needsOf_56 : decode cX2_needsOf 56 = .ok (.invokestatic 36, 3) := by decide +kernel
theorem dX2_needsOf_59 : decode cX2_needsOf 59 = .ok (.ior, 1) := by decide +kernel
theorem dX2_needsOf_60 : decode cX2_needsOf 60 = .ok (.ior, 1) := by decide +kernel
theorem dX2_needsOf_61 : decode cX2_needsOf 61 = .ok (.istore_n 2, 1) := by decide +kernel
theorem dX2_needsOf_62 : decode cX2_needsOf 62 = .ok (.iinc 3 1, 3) := by decide +kernel
theorem dX2_needsOf_65 : decode cX2_needsOf 65 = .ok (.goto (-61), 3) := by decide +kernel
theorem dX2_needsOf_68 : decode cX2_needsOf 68 = .ok (.iload_n 2, 1) := by decide +kernel
theorem dX2_needsOf_69 : decode cX2_needsOf 69 = .ok (.ireturn, 1) := by decide +kernel
theorem dX2_operandMask_0 : decode cX2_operandMask 0 = .ok (.iload_n 0, 1) := by decide +kernel
theorem dX2_operandMask_1 : decode cX2_operandMask 1 = .ok (.bipush 100, 2) := by decide +kernel
theorem dX2_operandMask_3 : decode cX2_operandMask 3 = .ok (.if_icmp .lt 12, 3) := by decide +kernel
theorem dX2_operandMask_6 : decode cX2_operandMask 6 = .ok (.iconst 1, 1) := by decide +kernel
theorem dX2_operandMask_7 : decode cX2_operandMask 7 = .ok (.iload_n 0, 1) := by decide +kernel
theorem dX2_operandMask_8 : decode cX2_operandMask 8 = .ok (.bipush 100, 2) := by decide +kernel
theorem dX2_operandMask_10 : decode cX2_operandMask 10 = .ok (.isub, 1) := by decide +kernel
theorem dX2_operandMask_11 : decode cX2_operandMask 11 = .ok (.ishl, 1) := by decide +kernel
theorem dX2_operandMask_12 : decode cX2_operandMask 12 = .ok (.goto 4, 3) := by decide +kernel
theorem dX2_operandMask_15 : decode cX2_operandMask 15 = .ok (.iconst 0, 1) := by decide +kernel
theorem dX2_operandMask_16 : decode cX2_operandMask 16 = .ok (.ireturn, 1) := by decide +kernel
set_option maxRecDepth 20000 in
theorem ggX2_compute_X6_forget : GoodIn wsX2_compute wsX6_forget := goodIn_r _ [6, 7, 63, 64, 65] (by decide +kernel) (by decide +kernel)
set_option maxRecDepth 20000 in
theorem gX2_compute_X6_forget : GoodIn wsX2_compute (wsV RX2 47 RX6 yX6_forget wsX6_forget) := goodIn_app (goodIn_of _ (by decide +kernel)) ggX2_compute_X6_forget
set_option maxRecDepth 20000 in
theorem ggX2_compute_X2_computeOne : GoodIn wsX2_compute wsX2_computeOne := goodIn_r _ [12, 13, 14, 15, 11, 16, 17, 18, 19, 20, 1, 21, 22, 23, 24, 25, 26, 27, 28, 29, 30, 31, 32, 33, 34, 35, 36, 37, 38, 39, 40, 41, 42, 43, 44, 45, 46, 47, 48, 49, 50, 51, 52, 53, 5, 54, 7, 55, 56, 58, 59, 60, 61, 62, 63, 64, 65, 66, 67, 68, 69, 70, 71, 72, 73, 74, 75, 57, 76, 77, 78] (by decide +kernel) (by decide +kernel)
set_option maxRecDepth 20000 in
theorem gX2_compute_X2_computeOne : GoodIn wsX2_compute (wsV RX2 52 RX2 yX2_computeOne wsX2_computeOne) := goodIn_app (goodIn_of _ (by decide +kernel)) ggX2_compute_X2_computeOne
set_option maxRecDepth 20000 in
theorem ggX2_compute_X2_at : GoodIn wsX2_compute wsX2_at := goodIn_r _ [20, 1, 57] (by decide +kernel) (by decide +kernel)
set_option maxRecDepth 20000 in
theorem gX2_compute_X2_at : GoodIn wsX2_compute (wsV RX2 18 RX2 yX2_at wsX2_at) := goodIn_app (goodIn_of _ (by decide +kernel)) ggX2_compute_X2_at
theorem dX2_compute_0 : decode cX2_compute 0 = .ok (.iconst 0, 1) := by decide +kernel
theorem dX2_compute_1 : decode cX2_compute 1 = .ok (.istore_n 3, 1) := by decide +kernel
theorem dX2_compute_2 : decode cX2_compute 2 = .ok (.iload_n 3, 1) := by decide +kernel
theorem dX2_compute_3 : decode cX2_compute 3 = .ok (.aload_n 0, 1) := by decide +kernel
theorem dX2_compute_4 : decode cX2_compute 4 = .ok (.getfield 11, 3) := by decide +kernel
theorem dX2_compute_7 : decode cX2_compute 7 = .ok (.arraylength, 1) := by decide +kernel
theorem dX2_compute_8 : decode cX2_compute 8 = .ok (.if_icmp .ge 30, 3) := by decide +kernel
theorem dX2_compute_11 : decode cX2_compute 11 = .ok (.aload_n 0, 1) := by decide +kernel
theorem dX2_compute_12 : decode cX2_compute 12 = .ok (.getfield 11, 3) := by decide +kernel
theorem dX2_compute_15 : decode cX2_compute 15 = .ok (.iload_n 3, 1) := by decide +kernel
theorem dX2_compute_16 : decode cX2_compute 16 = .ok (.aaload, 1) := by decide +kernel
theorem dX2_compute_17 : decode cX2_compute 17 = .ok (.ifnull 15, 3) := by decide +kernel
theorem dX2_compute_20 : decode cX2_compute 20 = .ok (.aload_n 0, 1) := by decide +kernel
theorem dX2_compute_21 : decode cX2_compute 21 = .ok (.getfield 11, 3) := by decide +kernel
theorem dX2_compute_24 : decode cX2_compute 24 = .ok (.iload_n 3, 1) := by decide +kernel
theorem dX2_compute_25 : decode cX2_compute 25 = .ok (.aaload, 1) := by decide +kernel
theorem dX2_compute_26 : decode cX2_compute 26 = .ok (.getfield 43, 3) := by decide +kernel
theorem dX2_compute_29 : decode cX2_compute 29 = .ok (.invokevirtual 47, 3) := by decide +kernel
theorem dX2_compute_32 : decode cX2_compute 32 = .ok (.iinc 3 1, 3) := by decide +kernel
theorem dX2_compute_35 : decode cX2_compute 35 = .ok (.goto (-33), 3) := by decide +kernel
theorem dX2_compute_38 : decode cX2_compute 38 = .ok (.iconst 0, 1) := by decide +kernel
theorem dX2_compute_39 : decode cX2_compute 39 = .ok (.istore_n 3, 1) := by decide +kernel
theorem dX2_compute_40 : decode cX2_compute 40 = .ok (.iload_n 3, 1) := by decide +kernel
theorem dX2_compute_41 : decode cX2_compute 41 = .ok (.aload_n 0, 1) := by decide +kernel
theorem dX2_compute_42 : decode cX2_compute 42 = .ok (.getfield 11, 3) := by decide +kernel
theorem dX2_compute_45 : decode cX2_compute 45 = .ok (.arraylength, 1) := by decide +kernel
theorem dX2_compute_46 : decode cX2_compute 46 = .ok (.if_icmp .ge 40, 3) := by decide +kernel
theorem dX2_compute_49 : decode cX2_compute 49 = .ok (.iconst 0, 1) := by decide +kernel
theorem dX2_compute_50 : decode cX2_compute 50 = .ok (.istore 4, 2) := by decide +kernel
theorem dX2_compute_52 : decode cX2_compute 52 = .ok (.iload 4, 2) := by decide +kernel
theorem dX2_compute_54 : decode cX2_compute 54 = .ok (.aload_n 0, 1) := by decide +kernel
theorem dX2_compute_55 : decode cX2_compute 55 = .ok (.getfield 11, 3) := by decide +kernel
theorem dX2_compute_58 : decode cX2_compute 58 = .ok (.arraylength, 1) := by decide +kernel
theorem dX2_compute_59 : decode cX2_compute 59 = .ok (.if_icmp .ge 21, 3) := by decide +kernel
theorem dX2_compute_62 : decode cX2_compute 62 = .ok (.aload_n 0, 1) := by decide +kernel
theorem dX2_compute_63 : decode cX2_compute 63 = .ok (.aload_n 0, 1) := by decide +kernel
theorem dX2_compute_64 : decode cX2_compute 64 = .ok (.getfield 11, 3) := by decide +kernel
theorem dX2_compute_67 : decode cX2_compute 67 = .ok (.iload 4, 2) := by decide +kernel
theorem dX2_compute_69 : decode cX2_compute 69 = .ok (.aaload, 1) := by decide +kernel
theorem dX2_compute_70 : decode cX2_compute 70 = .ok (.aload_n 2, 1) := by decide +kernel
theorem dX2_compute_71 : decode cX2_compute 71 = .ok (.invokevirtual 52, 3) := by decide +kernel
theorem dX2_compute_74 : decode cX2_compute 74 = .ok (.iinc 4 1, 3) := by decide +kernel
theorem dX2_compute_77 : decode cX2_compute 77 = .ok (.goto (-25), 3) := by decide +kernel
theorem dX2_compute_80 : decode cX2_compute 80 = .ok (.iinc 3 1, 3) := by decide +kernel
theorem dX2_compute_83 : decode cX2_compute 83 = .ok (.goto (-43), 3) := by decide +kernel
theorem dX2_compute_86 : decode cX2_compute 86 = .ok (.aload_n 0, 1) := by decide +kernel
theorem dX2_compute_87 : decode cX2_compute 87 = .ok (.iload_n 1, 1) := by decide +kernel
theorem dX2_compute_88 : decode cX2_compute 88 = .ok (.invokevirtual 18, 3) := by decide +kernel
theorem dX2_compute_91 : decode cX2_compute 91 = .ok (.astore_n 3, 1) := by decide +kernel
theorem dX2_compute_92 : decode cX2_compute 92 = .ok (.aload_n 3, 1) := by decide +kernel
theorem dX2_compute_93 : decode cX2_compute 93 = .ok (.ifnonnull 7, 3) := by decide +kernel
theorem dX2_compute_96 : decode cX2_compute 96 = .ok (.aconst_null, 1) := by decide +kernel
theorem dX2_compute_97 : decode cX2_compute 97 = .ok (.goto 7, 3) := by decide +kernel
theorem dX2_compute_100 : decode cX2_compute 100 = .ok (.aload_n 3, 1) := by decide +kernel
theorem dX2_compute_101 : decode cX2_compute 101 = .ok (.getfield 43, 3) := by decide +kernel
theorem dX2_compute_104 : decode cX2_compute 104 = .ok (.areturn, 1) := by decide +kernel
set_option maxRecDepth 20000 in
theorem ggX2_computeOne_X2_operand : GoodIn wsX2_computeOne wsX2_operand := goodIn_r _ [5, 6, 7, 8, 4, 9, 10, 11, 12, 13, 14, 15, 16, 17, 49, 50, 51, 52, 53, 57, 58, 59, 60, 61, 62, 63, 64, 65, 66, 67, 68, 69, 70] (by decide +kernel) (by decide +kernel)
set_option maxRecDepth 20000 in
theorem gX2_computeOne_X2_operand : GoodIn wsX2_computeOne (wsV RX2 59 RX2 yX2_operand wsX2_operand) := goodIn_app (goodIn_of _ (by decide +kernel)) ggX2_computeOne_X2_operand
set_option maxRecDepth 20000 in
theorem ggX2_computeOne_X1_combine : GoodIn wsX2_computeOne wsX1_combine := goodIn_r _ [22, 23, 24, 25, 26, 27, 28, 29, 30, 31, 32, 33, 34, 35, 36, 37, 38, 21, 39, 40, 41, 42, 43, 44, 45, 46, 47, 48, 54, 55, 56, 49, 50, 51, 52, 53] (by decide +kernel) (by decide +kernel)
set_option maxRecDepth 20000 in
theorem gX2_computeOne_X1_combine : GoodIn wsX2_computeOne (wsV RX2 63 RX1 yX1_combine wsX1_combine) := goodIn_app (goodIn_of _ (by decide +kernel)) ggX2_computeOne_X1_combine
theorem dX2_computeOne_0 : decode cX2_computeOne 0 = .ok (.aload_n 1, 1) := by decide +kernel
theorem dX2_computeOne_1 : decode cX2_computeOne 1 = .ok (.ifnull 20, 3) := by decide +kernel
theorem dX2_computeOne_4 : decode cX2_computeOne 4 = .ok (.aload_n 1, 1) := by decide +kernel
theorem dX2_computeOne_5 : decode cX2_computeOne 5 = .ok (.getfield 22, 3) := by decide +kernel
theorem dX2_computeOne_8 : decode cX2_computeOne 8 = .ok (.ifCond .eq 13, 3) := by decide +kernel
theorem dX2_computeOne_11 : decode cX2_computeOne 11 = .ok (.aload_n 1, 1) := by decide +kernel
theorem dX2_computeOne_12 : decode cX2_computeOne 12 = .ok (.getfield 43, 3) := by decide +kernel
theorem dX2_computeOne_15 : decode cX2_computeOne 15 = .ok (.getfield 56, 3) := by decide +kernel
theorem dX2_computeOne_18 : decode cX2_computeOne 18 = .ok (.ifCond .eq 4, 3) := by decide +kernel
theorem dX2_computeOne_21 : decode cX2_computeOne 21 = .ok (.return_, 1) := by decide +kernel
theorem dX2_computeOne_22 : decode cX2_computeOne 22 = .ok (.aload_n 0, 1) := by decide +kernel
theorem dX2_computeOne_23 : decode cX2_computeOne 23 = .ok (.aload_n 1, 1) := by decide +kernel
theorem dX2_computeOne_24 : decode cX2_computeOne 24 = .ok (.getfield 30, 3) := by decide +kernel
theorem dX2_computeOne_27 : decode cX2_computeOne 27 = .ok (.aload_n 2, 1) := by decide +kernel
theorem dX2_computeOne_28 : decode cX2_computeOne 28 = .ok (.invokevirtual 59, 3) := by decide +kernel
theorem dX2_computeOne_31 : decode cX2_computeOne 31 = .ok (.astore_n 3, 1) := by decide +kernel
theorem dX2_computeOne_32 : decode cX2_computeOne 32 = .ok (.aload_n 0, 1) := by decide +kernel
theorem dX2_computeOne_33 : decode cX2_computeOne 33 = .ok (.aload_n 1, 1) := by decide +kernel
theorem dX2_computeOne_34 : decode cX2_computeOne 34 = .ok (.getfield 33, 3) := by decide +kernel
theorem dX2_computeOne_37 : decode cX2_computeOne 37 = .ok (.aload_n 2, 1) := by decide +kernel
theorem dX2_computeOne_38 : decode cX2_computeOne 38 = .ok (.invokevirtual 59, 3) := by decide +kernel
theorem dX2_computeOne_41 : decode cX2_computeOne 41 = .ok (.astore 4, 2) := by decide +kernel
theorem dX2_computeOne_43 : decode cX2_computeOne 43 = .ok (.aload_n 3, 1) := by decide +kernel
theorem dX2_computeOne_44 : decode cX2_computeOne 44 = .ok (.ifnull 30, 3) := by decide +kernel
theorem dX2_computeOne_47 : decode cX2_computeOne 47 = .ok (.aload 4, 2) := by decide +kernel
theorem dX2_computeOne_49 : decode cX2_computeOne 49 = .ok (.ifnull 25, 3) := by decide +kernel
theorem dX2_computeOne_52 : decode cX2_computeOne 52 = .ok (.aload_n 3, 1) := by decide +kernel
theorem dX2_computeOne_53 : decode cX2_computeOne 53 = .ok (.getfield 56, 3) := by decide +kernel
theorem dX2_computeOne_56 : decode cX2_computeOne 56 = .ok (.ifCond .eq 18, 3) := by decide +kernel
theorem dX2_computeOne_59 : decode cX2_computeOne 59 = .ok (.aload 4, 2) := by decide +kernel
theorem dX2_computeOne_61 : decode cX2_computeOne 61 = .ok (.getfield 56, 3) := by decide +kernel
theorem dX2_computeOne_64 : decode cX2_computeOne 64 = .ok (.ifCond .eq 10, 3) := by decide +kernel
theorem dX2_computeOne_67 : decode cX2_computeOne 67 = .ok (.aload_n 1, 1) := by decide +kernel
theorem dX2_computeOne_68 : decode cX2_computeOne 68 = .ok (.aload_n 3, 1) := by decide +kernel
theorem dX2_computeOne_69 : decode cX2_computeOne 69 = .ok (.aload 4, 2) := by decide +kernel
theorem dX2_computeOne_71 : decode cX2_computeOne 71 = .ok (.invokevirtual 63, 3) := by decide +kernel
theorem dX2_computeOne_74 : decode cX2_computeOne 74 = .ok (.return_, 1) := by decide +kernel
set_option maxRecDepth 20000 in
theorem ggX2_operand_X2_at : GoodIn wsX2_operand wsX2_at := goodIn_r _ [5, 6, 29] (by decide +kernel) (by decide +kernel)
set_option maxRecDepth 20000 in
theorem gX2_operand_X2_at : GoodIn wsX2_operand (wsV RX2 18 RX2 yX2_at wsX2_at) := goodIn_app (goodIn_of _ (by decide +kernel)) ggX2_operand_X2_at
set_option maxRecDepth 20000 in
theorem ggX2_operand_X5_at : GoodIn wsX2_operand wsX5_at := goodIn_r _ [11, 12, 13, 30, 31, 32] (by decide +kernel) (by decide +kernel)
set_option maxRecDepth 20000 in
theorem gX2_operand_X5_at : GoodIn wsX2_operand (wsV RX2 67 RX5 yX5_at wsX5_at) := goodIn_app (goodIn_of _ (by decide +kernel)) ggX2_operand_X5_at
theorem dX2_operand_0 : decode cX2_operand 0 = .ok (.iload_n 1, 1) := by decide +kernel
theorem dX2_operand_1 : decode cX2_operand 1 = .ok (.bipush 100, 2) := by decide +kernel
theorem dX2_operand_3 : decode cX2_operand 3 = .ok (.if_icmp .lt 25, 3) := by decide +kernel
theorem dX2_operand_6 : decode cX2_operand 6 = .ok (.aload_n 0, 1) := by decide +kernel
theorem dX2_operand_7 : decode cX2_operand 7 = .ok (.iload_n 1, 1) := by decide +kernel
theorem dX2_operand_8 : decode cX2_operand 8 = .ok (.bipush 100, 2) := by decide +kernel
theorem dX2_operand_10 : decode cX2_operand 10 = .ok (.isub, 1) := by decide +kernel
theorem dX2_operand_11 : decode cX2_operand 11 = .ok (.invokevirtual 18, 3) := by decide +kernel
theorem dX2_operand_14 : decode cX2_operand 14 = .ok (.astore_n 3, 1) := by decide +kernel
theorem dX2_operand_15 : decode cX2_operand 15 = .ok (.aload_n 3, 1) := by decide +kernel
theorem dX2_operand_16 : decode cX2_operand 16 = .ok (.ifnonnull 7, 3) := by decide +kernel
theorem dX2_operand_19 : decode cX2_operand 19 = .ok (.aconst_null, 1) := by decide +kernel
theorem dX2_operand_20 : decode cX2_operand 20 = .ok (.goto 7, 3) := by decide +kernel
theorem dX2_operand_23 : decode cX2_operand 23 = .ok (.aload_n 3, 1) := by decide +kernel
theorem dX2_operand_24 : decode cX2_operand 24 = .ok (.getfield 43, 3) := by decide +kernel
theorem dX2_operand_27 : decode cX2_operand 27 = .ok (.areturn, 1) := by decide +kernel
theorem dX2_operand_28 : decode cX2_operand 28 = .ok (.aload_n 2, 1) := by decide +kernel
theorem dX2_operand_29 : decode cX2_operand 29 = .ok (.iload_n 1, 1) := by decide +kernel
theorem dX2_operand_30 : decode cX2_operand 30 = .ok (.invokevirtual 67, 3) := by decide +kernel
theorem dX2_operand_33 : decode cX2_operand 33 = .ok (.astore_n 3, 1) := by decide +kernel
theorem dX2_operand_34 : decode cX2_operand 34 = .ok (.aload_n 3, 1) := by decide +kernel
theorem dX2_operand_35 : decode cX2_operand 35 = .ok (.ifnonnull 7, 3) := by decide +kernel
theorem dX2_operand_38 : decode cX2_operand 38 = .ok (.aconst_null, 1) := by decide +kernel
theorem dX2_operand_39 : decode cX2_operand 39 = .ok (.goto 7, 3) := by decide +kernel
theorem dX2_operand_42 : decode cX2_operand 42 = .ok (.aload_n 3, 1) := by decide +kernel
theorem dX2_operand_43 : decode cX2_operand 43 = .ok (.getfield 72, 3) := by decide +kernel
theorem dX2_operand_46 : decode cX2_operand 46 = .ok (.areturn, 1) := by decide +kernel
theorem dX2_at_0 : decode cX2_at 0 = .ok (.iload_n 1, 1) := by decide +kernel
theorem dX2_at_1 : decode cX2_at 1 = .ok (.ifCond .lt 21, 3) := by decide +kernel
theorem dX2_at_4 : decode cX2_at 4 = .ok (.iload_n 1, 1) := by decide +kernel
theorem dX2_at_5 : decode cX2_at 5 = .ok (.aload_n 0, 1) := by decide +kernel
theorem dX2_at_6 : decode cX2_at 6 = .ok (.getfield 11, 3) := by decide +kernel
theorem dX2_at_9 : decode cX2_at 9 = .ok (.arraylength, 1) := by decide +kernel
theorem dX2_at_10 : decode cX2_at 10 = .ok (.if_icmp .ge 12, 3) := by decide +kernel
theorem dX2_at_13 : decode cX2_at 13 = .ok (.aload_n 0, 1) := by decide +kernel
theorem dX2_at_14 : decode cX2_at 14 = .ok (.getfield 11, 3) := by decide +kernel
theorem dX2_at_17 : decode cX2_at 17 = .ok (.iload_n 1, 1) := by decide +kernel
theorem dX2_at_18 : decode cX2_at 18 = .ok (.aaload, 1) := by decide +kernel
theorem dX2_at_19 : decode cX2_at 19 = .ok (.goto 4, 3) := by decide +kernel
theorem dX2_at_22 : decode cX2_at 22 = .ok (.aconst_null, 1) := by decide +kernel
theorem dX2_at_23 : decode cX2_at 23 = .ok (.areturn, 1) := by decide +kernel
theorem dX3_init_0 : decode cX3_init 0 = .ok (.aload_n 0, 1) := by decide +kernel
theorem dX3_init_1 : decode cX3_init 1 = .ok (.invokespecial 3, 3) := by decide +kernel
theorem dX3_init_4 : decode cX3_init 4 = .ok (.aload_n 0, 1) := by decide +kernel
theorem dX3_init_5 : decode cX3_init 5 = .ok (.sipush 8000, 3) := by decide +kernel
theorem dX3_init_8 : decode cX3_init 8 = .ok (.newarray .int, 2) := by decide +kernel
theorem dX3_init_10 : decode cX3_init 10 = .ok (.putfield 9, 3) := by decide +kernel
theorem dX3_init_13 : decode cX3_init 13 = .ok (.return_, 1) := by decide +kernel
theorem dX3_length_0 : decode cX3_length 0 = .ok (.aload_n 0, 1) := by decide +kernel
theorem dX3_length_1 : decode cX3_length 1 = .ok (.getfield 15, 3) := by decide +kernel
theorem dX3_length_4 : decode cX3_length 4 = .ok (.aload_n 0, 1) := by decide +kernel
theorem dX3_length_5 : decode cX3_length 5 = .ok (.getfield 19, 3) := by decide +kernel
theorem dX3_length_8 : decode cX3_length 8 = .ok (.isub, 1) := by decide +kernel
theorem dX3_length_9 : decode cX3_length 9 = .ok (.ireturn, 1) := by decide +kernel
set_option maxRecDepth 20000 in
theorem ggX3_holds_X3_length : GoodIn wsX3_holds wsX3_length := goodIn_r _ [5, 6, 7, 8, 9, 10] (by decide +kernel) (by decide +kernel)
set_option maxRecDepth 20000 in
theorem gX3_holds_X3_length : GoodIn wsX3_holds (wsV RX3 22 RX3 yX3_length wsX3_length) := goodIn_app (goodIn_of _ (by decide +kernel)) ggX3_holds_X3_length
theorem dX3_holds_0 : decode cX3_holds 0 = .ok (.iload_n 1, 1) := by decide +kernel
theorem dX3_holds_1 : decode cX3_holds 1 = .ok (.ifCond .lt 25, 3) := by decide +kernel
theorem dX3_holds_4 : decode cX3_holds 4 = .ok (.iload_n 1, 1) := by decide +kernel
theorem dX3_holds_5 : decode cX3_holds 5 = .ok (.aload_n 0, 1) := by decide +kernel
theorem dX3_holds_6 : decode cX3_holds 6 = .ok (.invokevirtual 22, 3) := by decide +kernel
theorem dX3_holds_9 : decode cX3_holds 9 = .ok (.if_icmp .ge 17, 3) := by decide +kernel
theorem dX3_holds_12 : decode cX3_holds 12 = .ok (.iload_n 2, 1) := by decide +kernel
theorem dX3_holds_13 : decode cX3_holds 13 = .ok (.aload_n 0, 1) := by decide +kernel
theorem dX3_holds_14 : decode cX3_holds 14 = .ok (.invokevirtual 22, 3) := by decide +kernel
theorem dX3_holds_17 : decode cX3_holds 17 = .ok (.iload_n 1, 1) := by decide +kernel
theorem dX3_holds_18 : decode cX3_holds 18 = .ok (.isub, 1) := by decide +kernel
theorem dX3_holds_19 : decode cX3_holds 19 = .ok (.if_icmp .gt 7, 3) := by decide +kernel
theorem dX3_holds_22 : decode cX3_holds 22 = .ok (.iconst 1, 1) := by decide +kernel
theorem dX3_holds_23 : decode cX3_holds 23 = .ok (.goto 4, 3) := by decide +kernel
theorem dX3_holds_26 : decode cX3_holds 26 = .ok (.iconst 0, 1) := by decide +kernel
theorem dX3_holds_27 : decode cX3_holds 27 = .ok (.ireturn, 1) := by decide +kernel
theorem dX3_append_0 : decode cX3_append 0 = .ok (.aload_n 0, 1) := by decide +kernel
theorem dX3_append_1 : decode cX3_append 1 = .ok (.getfield 15, 3) := by decide +kernel
theorem dX3_append_4 : decode cX3_append 4 = .ok (.aload_n 0, 1) := by decide +kernel
theorem dX3_append_5 : decode cX3_append 5 = .ok (.getfield 9, 3) := by decide +kernel
theorem dX3_append_8 : decode cX3_append 8 = .ok (.arraylength, 1) := by decide +kernel
theorem dX3_append_9 : decode cX3_append 9 = .ok (.if_icmp .ge 23, 3) := by decide +kernel
theorem dX3_append_12 : decode cX3_append 12 = .ok (.aload_n 0, 1) := by decide +kernel
theorem dX3_append_13 : decode cX3_append 13 = .ok (.getfield 9, 3) := by decide +kernel
theorem dX3_append_16 : decode cX3_append 16 = .ok (.aload_n 0, 1) := by decide +kernel
theorem dX3_append_17 : decode cX3_append 17 = .ok (.getfield 15, 3) := by decide +kernel
theorem dX3_append_20 : decode cX3_append 20 = .ok (.iload_n 1, 1) := by decide +kernel
theorem dX3_append_21 : decode cX3_append 21 = .ok (.iastore, 1) := by decide +kernel
theorem dX3_append_22 : decode cX3_append 22 = .ok (.aload_n 0, 1) := by decide +kernel
theorem dX3_append_23 : decode cX3_append 23 = .ok (.dup, 1) := by decide +kernel
theorem dX3_append_24 : decode cX3_append 24 = .ok (.getfield 15, 3) := by decide +kernel
theorem dX3_append_27 : decode cX3_append 27 = .ok (.iconst 1, 1) := by decide +kernel
theorem dX3_append_28 : decode cX3_append 28 = .ok (.iadd, 1) := by decide +kernel
theorem dX3_append_29 : decode cX3_append 29 = .ok (.putfield 15, 3) := by decide +kernel
theorem dX3_append_32 : decode cX3_append 32 = .ok (.return_, 1) := by decide +kernel
set_option maxRecDepth 20000 in
theorem ggX3_look_X3_holds : GoodIn wsX3_look wsX3_holds := goodIn_r _ [7, 8, 9, 10, 6, 11, 12, 2, 13, 14, 15] (by decide +kernel) (by decide +kernel)
set_option maxRecDepth 20000 in
theorem gX3_look_X3_holds : GoodIn wsX3_look (wsV RX3 26 RX3 yX3_holds wsX3_holds) := goodIn_app (goodIn_of _ (by decide +kernel)) ggX3_look_X3_holds
theorem dX3_look_0 : decode cX3_look 0 = .ok (.aload_n 0, 1) := by decide +kernel
theorem dX3_look_1 : decode cX3_look 1 = .ok (.iload_n 1, 1) := by decide +kernel
theorem dX3_look_2 : decode cX3_look 2 = .ok (.iconst 1, 1) := by decide +kernel
theorem dX3_look_3 : decode cX3_look 3 = .ok (.invokevirtual 26, 3) := by decide +kernel
theorem dX3_look_6 : decode cX3_look 6 = .ok (.ifCond .eq 17, 3) := by decide +kernel
theorem dX3_look_9 : decode cX3_look 9 = .ok (.aload_n 0, 1) := by decide +kernel
theorem dX3_look_10 : decode cX3_look 10 = .ok (.getfield 9, 3) := by decide +kernel
theorem dX3_look_13 : decode cX3_look 13 = .ok (.aload_n 0, 1) := by decide +kernel
theorem dX3_look_14 : decode cX3_look 14 = .ok (.getfield 19, 3) := by decide +kernel
theorem dX3_look_17 : decode cX3_look 17 = .ok (.iload_n 1, 1) := by decide +kernel
theorem dX3_look_18 : decode cX3_look 18 = .ok (.iadd, 1) := by decide +kernel
theorem dX3_look_19 : decode cX3_look 19 = .ok (.iaload, 1) := by decide +kernel
theorem dX3_look_20 : decode cX3_look 20 = .ok (.goto 4, 3) := by decide +kernel
theorem dX3_look_23 : decode cX3_look 23 = .ok (.iconst 0, 1) := by decide +kernel
theorem dX3_look_24 : decode cX3_look 24 = .ok (.ireturn, 1) := by decide +kernel
set_option maxRecDepth 20000 in
theorem ggX3_turnOver_X3_holds : GoodIn wsX3_turnOver wsX3_holds := goodIn_r _ [7, 8, 9, 10, 6, 11, 12, 2, 13, 14, 15] (by decide +kernel) (by decide +kernel)
set_option maxRecDepth 20000 in
theorem gX3_turnOver_X3_holds : GoodIn wsX3_turnOver (wsV RX3 26 RX3 yX3_holds wsX3_holds) := goodIn_app (goodIn_of _ (by decide +kernel)) ggX3_turnOver_X3_holds
theorem dX3_turnOver_0 : decode cX3_turnOver 0 = .ok (.aload_n 0, 1) := by decide +kernel
theorem dX3_turnOver_1 : decode cX3_turnOver 1 = .ok (.iload_n 1, 1) := by decide +kernel
theorem dX3_turnOver_2 : decode cX3_turnOver 2 = .ok (.iconst 1, 1) := by decide +kernel
theorem dX3_turnOver_3 : decode cX3_turnOver 3 = .ok (.invokevirtual 26, 3) := by decide +kernel
theorem dX3_turnOver_6 : decode cX3_turnOver 6 = .ok (.ifCond .ne 5, 3) := by decide +kernel
theorem dX3_turnOver_9 : decode cX3_turnOver 9 = .ok (.iconst 0, 1) := by decide +kernel
theorem dX3_turnOver_10 : decode cX3_turnOver 10 = .ok (.ireturn, 1) := by decide +kernel
theorem dX3_turnOver_11 : decode cX3_turnOver 11 = .ok (.aload_n 0, 1) := by decide +kernel
theorem dX3_turnOver_12 : decode cX3_turnOver 12 = .ok (.getfield 9, 3) := by decide +kernel
theorem dX3_turnOver_15 : decode cX3_turnOver 15 = .ok (.aload_n 0, 1) := by decide +kernel
theorem dX3_turnOver_16 : decode cX3_turnOver 16 = .ok (.getfield 19, 3) := by decide +kernel
theorem dX3_turnOver_19 : decode cX3_turnOver 19 = .ok (.iload_n 1, 1) := by decide +kernel
theorem dX3_turnOver_20 : decode cX3_turnOver 20 = .ok (.iadd, 1) := by decide +kernel
theorem dX3_turnOver_21 : decode cX3_turnOver 21 = .ok (.dup2, 1) := by decide +kernel
theorem dX3_turnOver_22 : decode cX3_turnOver 22 = .ok (.iaload, 1) := by decide +kernel
theorem dX3_turnOver_23 : decode cX3_turnOver 23 = .ok (.iconst 1, 1) := by decide +kernel
theorem dX3_turnOver_24 : decode cX3_turnOver 24 = .ok (.ixor, 1) := by decide +kernel
end
section
theorem dX3_turnOver_25 : decode cX3_turnOver 25 = .ok (.iastore, 1) := by decide +kernel
theorem dX3_turnOver_26 : decode cX3_turnOver 26 = .ok (.aload_n 0, 1) := by decide +kernel
theorem dX3_turnOver_27 : decode cX3_turnOver 27 = .ok (.getfield 9, 3) := by decide +kernel
theorem dX3_turnOver_30 : decode cX3_turnOver 30 = .ok (.aload_n 0, 1) := by decide +kernel
theorem dX3_turnOver_31 : decode cX3_turnOver 31 = .ok (.getfield 19, 3) := by decide +kernel
theorem dX3_turnOver_34 : decode cX3_turnOver 34 = .ok (.iload_n 1, 1) := by decide +kernel
theorem dX3_turnOver_35 : decode cX3_turnOver 35 = .ok (.iadd, 1) := by decide +kernel
theorem dX3_turnOver_36 : decode cX3_turnOver 36 = .ok (.iaload, 1) := by decide +kernel
theorem dX3_turnOver_37 : decode cX3_turnOver 37 = .ok (.ireturn, 1) := by decide +kernel
set_option maxRecDepth 20000 in
theorem ggX3_remove_X3_holds : GoodIn wsX3_remove wsX3_holds := goodIn_r _ [12, 13, 14, 15, 11, 16, 3, 1, 17, 18, 19] (by decide +kernel) (by decide +kernel)
set_option maxRecDepth 20000 in
theorem gX3_remove_X3_holds : GoodIn wsX3_remove (wsV RX3 26 RX3 yX3_holds wsX3_holds) := goodIn_app (goodIn_of _ (by decide +kernel)) ggX3_remove_X3_holds
theorem dX3_remove_0 : decode cX3_remove 0 = .ok (.iload_n 2, 1) := by decide +kernel
theorem dX3_remove_1 : decode cX3_remove 1 = .ok (.iconst 1, 1) := by decide +kernel
theorem dX3_remove_2 : decode cX3_remove 2 = .ok (.if_icmp .lt 12, 3) := by decide +kernel
theorem dX3_remove_5 : decode cX3_remove 5 = .ok (.aload_n 0, 1) := by decide +kernel
theorem dX3_remove_6 : decode cX3_remove 6 = .ok (.iload_n 1, 1) := by decide +kernel
theorem dX3_remove_7 : decode cX3_remove 7 = .ok (.iload_n 2, 1) := by decide +kernel
theorem dX3_remove_8 : decode cX3_remove 8 = .ok (.invokevirtual 26, 3) := by decide +kernel
theorem dX3_remove_11 : decode cX3_remove 11 = .ok (.ifCond .ne 4, 3) := by decide +kernel
theorem dX3_remove_14 : decode cX3_remove 14 = .ok (.return_, 1) := by decide +kernel
theorem dX3_remove_15 : decode cX3_remove 15 = .ok (.aload_n 0, 1) := by decide +kernel
theorem dX3_remove_16 : decode cX3_remove 16 = .ok (.getfield 19, 3) := by decide +kernel
theorem dX3_remove_19 : decode cX3_remove 19 = .ok (.iload_n 1, 1) := by decide +kernel
theorem dX3_remove_20 : decode cX3_remove 20 = .ok (.iadd, 1) := by decide +kernel
theorem dX3_remove_21 : decode cX3_remove 21 = .ok (.iload_n 2, 1) := by decide +kernel
theorem dX3_remove_22 : decode cX3_remove 22 = .ok (.iadd, 1) := by decide +kernel
theorem dX3_remove_23 : decode cX3_remove 23 = .ok (.istore_n 3, 1) := by decide +kernel
theorem dX3_remove_24 : decode cX3_remove 24 = .ok (.aload_n 0, 1) := by decide +kernel
theorem dX3_remove_25 : decode cX3_remove 25 = .ok (.getfield 9, 3) := by decide +kernel
theorem dX3_remove_28 : decode cX3_remove 28 = .ok (.iload_n 3, 1) := by decide +kernel
theorem dX3_remove_29 : decode cX3_remove 29 = .ok (.aload_n 0, 1) := by decide +kernel
theorem dX3_remove_30 : decode cX3_remove 30 = .ok (.getfield 9, 3) := by decide +kernel
theorem dX3_remove_33 : decode cX3_remove 33 = .ok (.aload_n 0, 1) := by decide +kernel
theorem dX3_remove_34 : decode cX3_remove 34 = .ok (.getfield 19, 3) := by decide +kernel
theorem dX3_remove_37 : decode cX3_remove 37 = .ok (.iload_n 1, 1) := by decide +kernel
theorem dX3_remove_38 : decode cX3_remove 38 = .ok (.iadd, 1) := by decide +kernel
theorem dX3_remove_39 : decode cX3_remove 39 = .ok (.aload_n 0, 1) := by decide +kernel
theorem dX3_remove_40 : decode cX3_remove 40 = .ok (.getfield 15, 3) := by decide +kernel
theorem dX3_remove_43 : decode cX3_remove 43 = .ok (.iload_n 3, 1) := by decide +kernel
theorem dX3_remove_44 : decode cX3_remove 44 = .ok (.isub, 1) := by decide +kernel
theorem dX3_remove_45 : decode cX3_remove 45 = .ok (.invokestatic 30, 3) := by decide +kernel
theorem dX3_remove_48 : decode cX3_remove 48 = .ok (.aload_n 0, 1) := by decide +kernel
theorem dX3_remove_49 : decode cX3_remove 49 = .ok (.dup, 1) := by decide +kernel
theorem dX3_remove_50 : decode cX3_remove 50 = .ok (.getfield 15, 3) := by decide +kernel
theorem dX3_remove_53 : decode cX3_remove 53 = .ok (.iload_n 2, 1) := by decide +kernel
theorem dX3_remove_54 : decode cX3_remove 54 = .ok (.isub, 1) := by decide +kernel
theorem dX3_remove_55 : decode cX3_remove 55 = .ok (.putfield 15, 3) := by decide +kernel
theorem dX3_remove_58 : decode cX3_remove 58 = .ok (.return_, 1) := by decide +kernel
set_option maxRecDepth 20000 in
theorem ggX3_takeFirst_X3_holds : GoodIn wsX3_takeFirst wsX3_holds := goodIn_r _ [7, 8, 9, 10, 6, 11, 12, 2, 13, 14, 15] (by decide +kernel) (by decide +kernel)
set_option maxRecDepth 20000 in
theorem gX3_takeFirst_X3_holds : GoodIn wsX3_takeFirst (wsV RX3 26 RX3 yX3_holds wsX3_holds) := goodIn_app (goodIn_of _ (by decide +kernel)) ggX3_takeFirst_X3_holds
theorem dX3_takeFirst_0 : decode cX3_takeFirst 0 = .ok (.aload_n 0, 1) := by decide +kernel
theorem dX3_takeFirst_1 : decode cX3_takeFirst 1 = .ok (.iconst 0, 1) := by decide +kernel
theorem dX3_takeFirst_2 : decode cX3_takeFirst 2 = .ok (.iconst 1, 1) := by decide +kernel
theorem dX3_takeFirst_3 : decode cX3_takeFirst 3 = .ok (.invokevirtual 26, 3) := by decide +kernel
theorem dX3_takeFirst_6 : decode cX3_takeFirst 6 = .ok (.ifCond .ne 5, 3) := by decide +kernel
theorem dX3_takeFirst_9 : decode cX3_takeFirst 9 = .ok (.iconst 0, 1) := by decide +kernel
theorem dX3_takeFirst_10 : decode cX3_takeFirst 10 = .ok (.ireturn, 1) := by decide +kernel
theorem dX3_takeFirst_11 : decode cX3_takeFirst 11 = .ok (.aload_n 0, 1) := by decide +kernel
theorem dX3_takeFirst_12 : decode cX3_takeFirst 12 = .ok (.getfield 9, 3) := by decide +kernel
theorem dX3_takeFirst_15 : decode cX3_takeFirst 15 = .ok (.aload_n 0, 1) := by decide +kernel
theorem dX3_takeFirst_16 : decode cX3_takeFirst 16 = .ok (.getfield 19, 3) := by decide +kernel
theorem dX3_takeFirst_19 : decode cX3_takeFirst 19 = .ok (.iaload, 1) := by decide +kernel
theorem dX3_takeFirst_20 : decode cX3_takeFirst 20 = .ok (.istore_n 1, 1) := by decide +kernel
theorem dX3_takeFirst_21 : decode cX3_takeFirst 21 = .ok (.aload_n 0, 1) := by decide +kernel
theorem dX3_takeFirst_22 : decode cX3_takeFirst 22 = .ok (.dup, 1) := by decide +kernel
theorem dX3_takeFirst_23 : decode cX3_takeFirst 23 = .ok (.getfield 19, 3) := by decide +kernel
theorem dX3_takeFirst_26 : decode cX3_takeFirst 26 = .ok (.iconst 1, 1) := by decide +kernel
theorem dX3_takeFirst_27 : decode cX3_takeFirst 27 = .ok (.iadd, 1) := by decide +kernel
theorem dX3_takeFirst_28 : decode cX3_takeFirst 28 = .ok (.putfield 19, 3) := by decide +kernel
theorem dX3_takeFirst_31 : decode cX3_takeFirst 31 = .ok (.iload_n 1, 1) := by decide +kernel
theorem dX3_takeFirst_32 : decode cX3_takeFirst 32 = .ok (.ireturn, 1) := by decide +kernel
set_option maxRecDepth 20000 in
theorem ggX4_init_X6_init : GoodIn wsX4_init wsX6_init := goodIn_r _ [15, 16, 2, 3] (by decide +kernel) (by decide +kernel)
set_option maxRecDepth 20000 in
theorem gX4_init_X6_init_n33 : GoodIn wsX4_init (wsX6_init) := ggX4_init_X6_init
theorem dX4_init_0 : decode cX4_init 0 = .ok (.aload_n 0, 1) := by decide +kernel
theorem dX4_init_1 : decode cX4_init 1 = .ok (.invokespecial 3, 3) := by decide +kernel
theorem dX4_init_4 : decode cX4_init 4 = .ok (.aload_n 0, 1) := by decide +kernel
theorem dX4_init_5 : decode cX4_init 5 = .ok (.iload_n 1, 1) := by decide +kernel
theorem dX4_init_6 : decode cX4_init 6 = .ok (.putfield 9, 3) := by decide +kernel
theorem dX4_init_9 : decode cX4_init 9 = .ok (.aload_n 0, 1) := by decide +kernel
theorem dX4_init_10 : decode cX4_init 10 = .ok (.iload_n 2, 1) := by decide +kernel
theorem dX4_init_11 : decode cX4_init 11 = .ok (.putfield 15, 3) := by decide +kernel
theorem dX4_init_14 : decode cX4_init 14 = .ok (.aload_n 0, 1) := by decide +kernel
theorem dX4_init_15 : decode cX4_init 15 = .ok (.iload_n 3, 1) := by decide +kernel
theorem dX4_init_16 : decode cX4_init 16 = .ok (.putfield 18, 3) := by decide +kernel
theorem dX4_init_19 : decode cX4_init 19 = .ok (.aload_n 0, 1) := by decide +kernel
theorem dX4_init_20 : decode cX4_init 20 = .ok (.iload 4, 2) := by decide +kernel
theorem dX4_init_22 : decode cX4_init 22 = .ok (.putfield 21, 3) := by decide +kernel
theorem dX4_init_25 : decode cX4_init 25 = .ok (.aload_n 0, 1) := by decide +kernel
theorem dX4_init_26 : decode cX4_init 26 = .ok (.iload 5, 2) := by decide +kernel
theorem dX4_init_28 : decode cX4_init 28 = .ok (.putfield 25, 3) := by decide +kernel
theorem dX4_init_31 : decode cX4_init 31 = .ok (.aload_n 0, 1) := by decide +kernel
theorem dX4_init_32 : decode cX4_init 32 = .ok (.iload 6, 2) := by decide +kernel
theorem dX4_init_34 : decode cX4_init 34 = .ok (.putfield 28, 3) := by decide +kernel
theorem dX4_init_37 : decode cX4_init 37 = .ok (.aload_n 0, 1) := by decide +kernel
theorem dX4_init_38 : decode cX4_init 38 = .ok (.new 31, 3) := by decide +kernel
theorem dX4_init_41 : decode cX4_init 41 = .ok (.dup, 1) := by decide +kernel
theorem dX4_init_42 : decode cX4_init 42 = .ok (.invokespecial 33, 3) := by decide +kernel
theorem dX4_init_45 : decode cX4_init 45 = .ok (.putfield 34, 3) := by decide +kernel
theorem dX4_init_48 : decode cX4_init 48 = .ok (.return_, 1) := by decide +kernel
set_option maxRecDepth 20000 in
theorem ggX4_lowest_X4_signWeight : GoodIn wsX4_lowest wsX4_signWeight := goodIn_r _ [6, 7, 8, 9, 10, 11, 12, 13, 14, 15, 16, 17] (by decide +kernel) (by decide +kernel)
set_option maxRecDepth 20000 in
theorem gX4_lowest_X4_signWeight : GoodIn wsX4_lowest (wsV RX4 38 RX4 yX4_signWeight wsX4_signWeight) := goodIn_app (goodIn_of _ (by decide +kernel)) ggX4_lowest_X4_signWeight
theorem dX4_lowest_0 : decode cX4_lowest 0 = .ok (.aload_n 0, 1) := by decide +kernel
theorem dX4_lowest_1 : decode cX4_lowest 1 = .ok (.getfield 15, 3) := by decide +kernel
theorem dX4_lowest_4 : decode cX4_lowest 4 = .ok (.lookupswitch 37 #[(0, 28), (2, 30)], 28) := by decide +kernel
theorem dX4_lowest_32 : decode cX4_lowest 32 = .ok (.iconst 0, 1) := by decide +kernel
theorem dX4_lowest_33 : decode cX4_lowest 33 = .ok (.ireturn, 1) := by decide +kernel
theorem dX4_lowest_34 : decode cX4_lowest 34 = .ok (.iconst 1, 1) := by decide +kernel
theorem dX4_lowest_35 : decode cX4_lowest 35 = .ok (.aload_n 0, 1) := by decide +kernel
theorem dX4_lowest_36 : decode cX4_lowest 36 = .ok (.invokevirtual 38, 3) := by decide +kernel
theorem dX4_lowest_39 : decode cX4_lowest 39 = .ok (.isub, 1) := by decide +kernel
theorem dX4_lowest_40 : decode cX4_lowest 40 = .ok (.ireturn, 1) := by decide +kernel
theorem dX4_lowest_41 : decode cX4_lowest 41 = .ok (.aload_n 0, 1) := by decide +kernel
theorem dX4_lowest_42 : decode cX4_lowest 42 = .ok (.invokevirtual 38, 3) := by decide +kernel
theorem dX4_lowest_45 : decode cX4_lowest 45 = .ok (.ineg, 1) := by decide +kernel
theorem dX4_lowest_46 : decode cX4_lowest 46 = .ok (.ireturn, 1) := by decide +kernel
set_option maxRecDepth 20000 in
theorem ggX4_highest_X4_signWeight : GoodIn wsX4_highest wsX4_signWeight := goodIn_r _ [7, 2, 8, 9, 10, 11, 12, 13, 14, 15, 16, 17] (by decide +kernel) (by decide +kernel)
set_option maxRecDepth 20000 in
theorem gX4_highest_X4_signWeight : GoodIn wsX4_highest (wsV RX4 38 RX4 yX4_signWeight wsX4_signWeight) := goodIn_app (goodIn_of _ (by decide +kernel)) ggX4_highest_X4_signWeight
theorem dX4_highest_0 : decode cX4_highest 0 = .ok (.aload_n 0, 1) := by decide +kernel
theorem dX4_highest_1 : decode cX4_highest 1 = .ok (.getfield 15, 3) := by decide +kernel
theorem dX4_highest_4 : decode cX4_highest 4 = .ok (.ifCond .ne 14, 3) := by decide +kernel
theorem dX4_highest_7 : decode cX4_highest 7 = .ok (.iconst 1, 1) := by decide +kernel
theorem dX4_highest_8 : decode cX4_highest 8 = .ok (.aload_n 0, 1) := by decide +kernel
theorem dX4_highest_9 : decode cX4_highest 9 = .ok (.getfield 9, 3) := by decide +kernel
theorem dX4_highest_12 : decode cX4_highest 12 = .ok (.ishl, 1) := by decide +kernel
theorem dX4_highest_13 : decode cX4_highest 13 = .ok (.iconst 1, 1) := by decide +kernel
theorem dX4_highest_14 : decode cX4_highest 14 = .ok (.isub, 1) := by decide +kernel
theorem dX4_highest_15 : decode cX4_highest 15 = .ok (.goto 9, 3) := by decide +kernel
theorem dX4_highest_18 : decode cX4_highest 18 = .ok (.aload_n 0, 1) := by decide +kernel
theorem dX4_highest_19 : decode cX4_highest 19 = .ok (.invokevirtual 38, 3) := by decide +kernel
theorem dX4_highest_22 : decode cX4_highest 22 = .ok (.iconst 1, 1) := by decide +kernel
theorem dX4_highest_23 : decode cX4_highest 23 = .ok (.isub, 1) := by decide +kernel
theorem dX4_highest_24 : decode cX4_highest 24 = .ok (.ireturn, 1) := by decide +kernel
set_option maxRecDepth 20000 in
theorem ggX4_encode_X4_signWeight : GoodIn wsX4_encode wsX4_signWeight := goodIn_r _ [7, 2, 8, 9, 10, 11, 12, 13, 14, 15, 16, 17] (by decide +kernel) (by decide +kernel)
set_option maxRecDepth 20000 in
theorem gX4_encode_X4_signWeight : GoodIn wsX4_encode (wsV RX4 38 RX4 yX4_signWeight wsX4_signWeight) := goodIn_app (goodIn_of _ (by decide +kernel)) ggX4_encode_X4_signWeight
theorem dX4_encode_0 : decode cX4_encode 0 = .ok (.aload_n 0, 1) := by decide +kernel
theorem dX4_encode_1 : decode cX4_encode 1 = .ok (.getfield 15, 3) := by decide +kernel
theorem dX4_encode_4 : decode cX4_encode 4 = .ok (.tableswitch 67 1 3 #[28, 45, 60], 28) := by decide +kernel
theorem dX4_encode_32 : decode cX4_encode 32 = .ok (.iload_n 1, 1) := by decide +kernel
theorem dX4_encode_33 : decode cX4_encode 33 = .ok (.ifCond .ge 14, 3) := by decide +kernel
theorem dX4_encode_36 : decode cX4_encode 36 = .ok (.iload_n 1, 1) := by decide +kernel
theorem dX4_encode_37 : decode cX4_encode 37 = .ok (.iconst 1, 1) := by decide +kernel
theorem dX4_encode_38 : decode cX4_encode 38 = .ok (.aload_n 0, 1) := by decide +kernel
theorem dX4_encode_39 : decode cX4_encode 39 = .ok (.getfield 9, 3) := by decide +kernel
theorem dX4_encode_42 : decode cX4_encode 42 = .ok (.ishl, 1) := by decide +kernel
theorem dX4_encode_43 : decode cX4_encode 43 = .ok (.iadd, 1) := by decide +kernel
theorem dX4_encode_44 : decode cX4_encode 44 = .ok (.goto 4, 3) := by decide +kernel
theorem dX4_encode_47 : decode cX4_encode 47 = .ok (.iload_n 1, 1) := by decide +kernel
theorem dX4_encode_48 : decode cX4_encode 48 = .ok (.ireturn, 1) := by decide +kernel
theorem dX4_encode_49 : decode cX4_encode 49 = .ok (.iload_n 1, 1) := by decide +kernel
theorem dX4_encode_50 : decode cX4_encode 50 = .ok (.ifCond .ge 12, 3) := by decide +kernel
theorem dX4_encode_53 : decode cX4_encode 53 = .ok (.aload_n 0, 1) := by decide +kernel
theorem dX4_encode_54 : decode cX4_encode 54 = .ok (.invokevirtual 38, 3) := by decide +kernel
theorem dX4_encode_57 : decode cX4_encode 57 = .ok (.iload_n 1, 1) := by decide +kernel
theorem dX4_encode_58 : decode cX4_encode 58 = .ok (.isub, 1) := by decide +kernel
theorem dX4_encode_59 : decode cX4_encode 59 = .ok (.goto 4, 3) := by decide +kernel
theorem dX4_encode_62 : decode cX4_encode 62 = .ok (.iload_n 1, 1) := by decide +kernel
theorem dX4_encode_63 : decode cX4_encode 63 = .ok (.ireturn, 1) := by decide +kernel
theorem dX4_encode_64 : decode cX4_encode 64 = .ok (.iload_n 1, 1) := by decide +kernel
theorem dX4_encode_65 : decode cX4_encode 65 = .ok (.aload_n 0, 1) := by decide +kernel
theorem dX4_encode_66 : decode cX4_encode 66 = .ok (.invokevirtual 38, 3) := by decide +kernel
theorem dX4_encode_69 : decode cX4_encode 69 = .ok (.iadd, 1) := by decide +kernel
theorem dX4_encode_70 : decode cX4_encode 70 = .ok (.ireturn, 1) := by decide +kernel
theorem dX4_encode_71 : decode cX4_encode 71 = .ok (.iload_n 1, 1) := by decide +kernel
theorem dX4_encode_72 : decode cX4_encode 72 = .ok (.ireturn, 1) := by decide +kernel
set_option maxRecDepth 20000 in
theorem ggX4_decode_X4_signWeight : GoodIn wsX4_decode wsX4_signWeight := goodIn_r _ [7, 2, 8, 9, 10, 11, 12, 13, 14, 15, 16, 17] (by decide +kernel) (by decide +kernel)
set_option maxRecDepth 20000 in
theorem gX4_decode_X4_signWeight : GoodIn wsX4_decode (wsV RX4 38 RX4 yX4_signWeight wsX4_signWeight) := goodIn_app (goodIn_of _ (by decide +kernel)) ggX4_decode_X4_signWeight
theorem dX4_decode_0 : decode cX4_decode 0 = .ok (.iload_n 1, 1) := by decide +kernel
theorem dX4_decode_1 : decode cX4_decode 1 = .ok (.aload_n 0, 1) := by decide +kernel
theorem dX4_decode_2 : decode cX4_decode 2 = .ok (.invokevirtual 38, 3) := by decide +kernel
theorem dX4_decode_5 : decode cX4_decode 5 = .ok (.if_icmp .lt 7, 3) := by decide +kernel
theorem dX4_decode_8 : decode cX4_decode 8 = .ok (.iconst 1, 1) := by decide +kernel
theorem dX4_decode_9 : decode cX4_decode 9 = .ok (.goto 4, 3) := by decide +kernel
theorem dX4_decode_12 : decode cX4_decode 12 = .ok (.iconst 0, 1) := by decide +kernel
theorem dX4_decode_13 : decode cX4_decode 13 = .ok (.istore_n 2, 1) := by decide +kernel
theorem dX4_decode_14 : decode cX4_decode 14 = .ok (.aload_n 0, 1) := by decide +kernel
theorem dX4_decode_15 : decode cX4_decode 15 = .ok (.getfield 15, 3) := by decide +kernel
theorem dX4_decode_18 : decode cX4_decode 18 = .ok (.tableswitch 65 1 3 #[26, 43, 58], 26) := by decide +kernel
theorem dX4_decode_44 : decode cX4_decode 44 = .ok (.iload_n 2, 1) := by decide +kernel
theorem dX4_decode_45 : decode cX4_decode 45 = .ok (.ifCond .eq 14, 3) := by decide +kernel
theorem dX4_decode_48 : decode cX4_decode 48 = .ok (.iload_n 1, 1) := by decide +kernel
theorem dX4_decode_49 : decode cX4_decode 49 = .ok (.iconst 1, 1) := by decide +kernel
theorem dX4_decode_50 : decode cX4_decode 50 = .ok (.aload_n 0, 1) := by decide +kernel
theorem dX4_decode_51 : decode cX4_decode 51 = .ok (.getfield 9, 3) := by decide +kernel
theorem dX4_decode_54 : decode cX4_decode 54 = .ok (.ishl, 1) := by decide +kernel
theorem dX4_decode_55 : decode cX4_decode 55 = .ok (.isub, 1) := by decide +kernel
theorem dX4_decode_56 : decode cX4_decode 56 = .ok (.goto 4, 3) := by decide +kernel
theorem dX4_decode_59 : decode cX4_decode 59 = .ok (.iload_n 1, 1) := by decide +kernel
theorem dX4_decode_60 : decode cX4_decode 60 = .ok (.ireturn, 1) := by decide +kernel
theorem dX4_decode_61 : decode cX4_decode 61 = .ok (.iload_n 2, 1) := by decide +kernel
theorem dX4_decode_62 : decode cX4_decode 62 = .ok (.ifCond .eq 12, 3) := by decide +kernel
theorem dX4_decode_65 : decode cX4_decode 65 = .ok (.aload_n 0, 1) := by decide +kernel
theorem dX4_decode_66 : decode cX4_decode 66 = .ok (.invokevirtual 38, 3) := by decide +kernel
theorem dX4_decode_69 : decode cX4_decode 69 = .ok (.iload_n 1, 1) := by decide +kernel
theorem dX4_decode_70 : decode cX4_decode 70 = .ok (.isub, 1) := by decide +kernel
theorem dX4_decode_71 : decode cX4_decode 71 = .ok (.goto 4, 3) := by decide +kernel
theorem dX4_decode_74 : decode cX4_decode 74 = .ok (.iload_n 1, 1) := by decide +kernel
theorem dX4_decode_75 : decode cX4_decode 75 = .ok (.ireturn, 1) := by decide +kernel
theorem dX4_decode_76 : decode cX4_decode 76 = .ok (.iload_n 1, 1) := by decide +kernel
theorem dX4_decode_77 : decode cX4_decode 77 = .ok (.aload_n 0, 1) := by decide +kernel
theorem dX4_decode_78 : decode cX4_decode 78 = .ok (.invokevirtual 38, 3) := by decide +kernel
theorem dX4_decode_81 : decode cX4_decode 81 = .ok (.isub, 1) := by decide +kernel
theorem dX4_decode_82 : decode cX4_decode 82 = .ok (.ireturn, 1) := by decide +kernel
theorem dX4_decode_83 : decode cX4_decode 83 = .ok (.iload_n 1, 1) := by decide +kernel
theorem dX4_decode_84 : decode cX4_decode 84 = .ok (.ireturn, 1) := by decide +kernel
theorem dX4_signWeight_0 : decode cX4_signWeight 0 = .ok (.iconst 1, 1) := by decide +kernel
theorem dX4_signWeight_1 : decode cX4_signWeight 1 = .ok (.aload_n 0, 1) := by decide +kernel
theorem dX4_signWeight_2 : decode cX4_signWeight 2 = .ok (.getfield 9, 3) := by decide +kernel
theorem dX4_signWeight_5 : decode cX4_signWeight 5 = .ok (.iconst 1, 1) := by decide +kernel
theorem dX4_signWeight_6 : decode cX4_signWeight 6 = .ok (.isub, 1) := by decide +kernel
theorem dX4_signWeight_7 : decode cX4_signWeight 7 = .ok (.ishl, 1) := by decide +kernel
theorem dX4_signWeight_8 : decode cX4_signWeight 8 = .ok (.ireturn, 1) := by decide +kernel
theorem dX4_isSentIn_0 : decode cX4_isSentIn 0 = .ok (.iload_n 1, 1) := by decide +kernel
theorem dX4_isSentIn_1 : decode cX4_isSentIn 1 = .ok (.aload_n 0, 1) := by decide +kernel
theorem dX4_isSentIn_2 : decode cX4_isSentIn 2 = .ok (.getfield 18, 3) := by decide +kernel
theorem dX4_isSentIn_5 : decode cX4_isSentIn 5 = .ok (.iconst 1, 1) := by decide +kernel
theorem dX4_isSentIn_6 : decode cX4_isSentIn 6 = .ok (.isub, 1) := by decide +kernel
theorem dX4_isSentIn_7 : decode cX4_isSentIn 7 = .ok (.iand, 1) := by decide +kernel
theorem dX4_isSentIn_8 : decode cX4_isSentIn 8 = .ok (.aload_n 0, 1) := by decide +kernel
theorem dX4_isSentIn_9 : decode cX4_isSentIn 9 = .ok (.getfield 25, 3) := by decide +kernel
theorem dX4_isSentIn_12 : decode cX4_isSentIn 12 = .ok (.if_icmp .ne 7, 3) := by decide +kernel
theorem dX4_isSentIn_15 : decode cX4_isSentIn 15 = .ok (.iconst 1, 1) := by decide +kernel
theorem dX4_isSentIn_16 : decode cX4_isSentIn 16 = .ok (.goto 4, 3) := by decide +kernel
theorem dX4_isSentIn_19 : decode cX4_isSentIn 19 = .ok (.iconst 0, 1) := by decide +kernel
theorem dX4_isSentIn_20 : decode cX4_isSentIn 20 = .ok (.ireturn, 1) := by decide +kernel
theorem dX4_samplesInFrame_0 : decode cX4_samplesInFrame 0 = .ok (.aload_n 0, 1) := by decide +kernel
theorem dX4_samplesInFrame_1 : decode cX4_samplesInFrame 1 = .ok (.getfield 21, 3) := by decide +kernel
theorem dX4_samplesInFrame_4 : decode cX4_samplesInFrame 4 = .ok (.ifCond .eq 7, 3) := by decide +kernel
theorem dX4_samplesInFrame_7 : decode cX4_samplesInFrame 7 = .ok (.iconst 2, 1) := by decide +kernel
theorem dX4_samplesInFrame_8 : decode cX4_samplesInFrame 8 = .ok (.goto 4, 3) := by decide +kernel
theorem dX4_samplesInFrame_11 : decode cX4_samplesInFrame 11 = .ok (.iconst 1, 1) := by decide +kernel
theorem dX4_samplesInFrame_12 : decode cX4_samplesInFrame 12 = .ok (.ireturn, 1) := by decide +kernel
theorem dX4_firstBit_0 : decode cX4_firstBit 0 = .ok (.bipush 16, 2) := by decide +kernel
theorem dX4_firstBit_2 : decode cX4_firstBit 2 = .ok (.aload_n 0, 1) := by decide +kernel
theorem dX4_firstBit_3 : decode cX4_firstBit 3 = .ok (.getfield 28, 3) := by decide +kernel
theorem dX4_firstBit_6 : decode cX4_firstBit 6 = .ok (.iadd, 1) := by decide +kernel
theorem dX4_firstBit_7 : decode cX4_firstBit 7 = .ok (.iload_n 1, 1) := by decide +kernel
theorem dX4_firstBit_8 : decode cX4_firstBit 8 = .ok (.bipush 24, 2) := by decide +kernel
theorem dX4_firstBit_10 : decode cX4_firstBit 10 = .ok (.imul, 1) := by decide +kernel
theorem dX4_firstBit_11 : decode cX4_firstBit 11 = .ok (.iadd, 1) := by decide +kernel
theorem dX4_firstBit_12 : decode cX4_firstBit 12 = .ok (.ireturn, 1) := by decide +kernel
set_option maxRecDepth 20000 in
theorem ggX4_shift_X4_firstBit : GoodIn wsX4_shift wsX4_firstBit := goodIn_r _ [6, 7, 8, 9, 10, 11, 12, 13, 14, 15, 16, 17] (by decide +kernel) (by decide +kernel)
set_option maxRecDepth 20000 in
theorem gX4_shift_X4_firstBit : GoodIn wsX4_shift (wsV RX4 42 RX4 yX4_firstBit wsX4_firstBit) := goodIn_app (goodIn_of _ (by decide +kernel)) ggX4_shift_X4_firstBit
theorem dX4_shift_0 : decode cX4_shift 0 = .ok (.bipush 64, 2) := by decide +kernel
theorem dX4_shift_2 : decode cX4_shift 2 = .ok (.aload_n 0, 1) := by decide +kernel
theorem dX4_shift_3 : decode cX4_shift 3 = .ok (.iload_n 1, 1) := by decide +kernel
theorem dX4_shift_4 : decode cX4_shift 4 = .ok (.invokevirtual 42, 3) := by decide +kernel
theorem dX4_shift_7 : decode cX4_shift 7 = .ok (.isub, 1) := by decide +kernel
theorem dX4_shift_8 : decode cX4_shift 8 = .ok (.aload_n 0, 1) := by decide +kernel
theorem dX4_shift_9 : decode cX4_shift 9 = .ok (.getfield 9, 3) := by decide +kernel
theorem dX4_shift_12 : decode cX4_shift 12 = .ok (.isub, 1) := by decide +kernel
theorem dX4_shift_13 : decode cX4_shift 13 = .ok (.ireturn, 1) := by decide +kernel
set_option maxRecDepth 20000 in
theorem ggX4_readFrom_X4_samplesInFrame : GoodIn wsX4_readFrom wsX4_samplesInFrame := goodIn_r _ [8, 9, 36, 37, 38, 39, 40, 41, 42, 43, 44, 45] (by decide +kernel) (by decide +kernel)
set_option maxRecDepth 20000 in
theorem gX4_readFrom_X4_samplesInFrame : GoodIn wsX4_readFrom (wsV RX4 46 RX4 yX4_samplesInFrame wsX4_samplesInFrame) := goodIn_app (goodIn_of _ (by decide +kernel)) ggX4_readFrom_X4_samplesInFrame
set_option maxRecDepth 20000 in
theorem ggX4_readFrom_X4_shift : GoodIn wsX4_readFrom wsX4_shift := goodIn_r _ [13, 1, 14, 15, 16, 7, 17, 18, 36, 37, 38, 39, 40, 41, 42, 43, 44, 45] (by decide +kernel) (by decide +kernel)
set_option maxRecDepth 20000 in
theorem gX4_readFrom_X4_shift : GoodIn wsX4_readFrom (wsV RX4 49 RX4 yX4_shift wsX4_shift) := goodIn_app (goodIn_of _ (by decide +kernel)) ggX4_readFrom_X4_shift
set_option maxRecDepth 20000 in
theorem ggX4_readFrom_X4_decode : GoodIn wsX4_readFrom wsX4_decode := goodIn_r _ [22, 23, 1, 24, 25, 26, 7, 27, 36, 37, 38, 39, 40, 41, 42, 43, 44, 45] (by decide +kernel) (by decide +kernel)
set_option maxRecDepth 20000 in
theorem gX4_readFrom_X4_decode : GoodIn wsX4_readFrom (wsV RX4 52 RX4 yX4_decode wsX4_decode) := goodIn_app (goodIn_of _ (by decide +kernel)) ggX4_readFrom_X4_decode
set_option maxRecDepth 20000 in
theorem ggX4_readFrom_X4_firstBit : GoodIn wsX4_readFrom wsX4_firstBit := goodIn_r _ [17, 18, 36, 37, 38, 39, 40, 41, 42, 43, 44, 45] (by decide +kernel) (by decide +kernel)
set_option maxRecDepth 20000 in
theorem gX4_readFrom_X4_firstBit : GoodIn wsX4_readFrom (wsV RX4 42 RX4 yX4_firstBit wsX4_firstBit) := goodIn_app (goodIn_of _ (by decide +kernel)) ggX4_readFrom_X4_firstBit
set_option maxRecDepth 20000 in
theorem ggX4_readFrom_X6_set : GoodIn wsX4_readFrom wsX6_set := goodIn_r _ [32, 33, 34, 35, 46, 47, 48] (by decide +kernel) (by decide +kernel)
set_option maxRecDepth 20000 in
theorem gX4_readFrom_X6_set : GoodIn wsX4_readFrom (wsV RX4 55 RX6 yX6_set wsX6_set) := goodIn_app (goodIn_of _ (by decide +kernel)) ggX4_readFrom_X6_set
theorem dX4_readFrom_0 : decode cX4_readFrom 0 = .ok (.iconst 0, 1) := by decide +kernel
theorem dX4_readFrom_1 : decode cX4_readFrom 1 = .ok (.istore 4, 2) := by decide +kernel
theorem dX4_readFrom_3 : decode cX4_readFrom 3 = .ok (.iload 4, 2) := by decide +kernel
theorem dX4_readFrom_5 : decode cX4_readFrom 5 = .ok (.aload_n 0, 1) := by decide +kernel
theorem dX4_readFrom_6 : decode cX4_readFrom 6 = .ok (.invokevirtual 46, 3) := by decide +kernel
theorem dX4_readFrom_9 : decode cX4_readFrom 9 = .ok (.if_icmp .ge 63, 3) := by decide +kernel
theorem dX4_readFrom_12 : decode cX4_readFrom 12 = .ok (.lload_n 1, 1) := by decide +kernel
theorem dX4_readFrom_13 : decode cX4_readFrom 13 = .ok (.aload_n 0, 1) := by decide +kernel
theorem dX4_readFrom_14 : decode cX4_readFrom 14 = .ok (.iload 4, 2) := by decide +kernel
theorem dX4_readFrom_16 : decode cX4_readFrom 16 = .ok (.invokevirtual 49, 3) := by decide +kernel
theorem dX4_readFrom_19 : decode cX4_readFrom 19 = .ok (.lushr, 1) := by decide +kernel
theorem dX4_readFrom_20 : decode cX4_readFrom 20 = .ok (.l2i, 1) := by decide +kernel
theorem dX4_readFrom_21 : decode cX4_readFrom 21 = .ok (.iconst 1, 1) := by decide +kernel
theorem dX4_readFrom_22 : decode cX4_readFrom 22 = .ok (.aload_n 0, 1) := by decide +kernel
theorem dX4_readFrom_23 : decode cX4_readFrom 23 = .ok (.getfield 9, 3) := by decide +kernel
theorem dX4_readFrom_26 : decode cX4_readFrom 26 = .ok (.ishl, 1) := by decide +kernel
theorem dX4_readFrom_27 : decode cX4_readFrom 27 = .ok (.iconst 1, 1) := by decide +kernel
theorem dX4_readFrom_28 : decode cX4_readFrom 28 = .ok (.isub, 1) := by decide +kernel
theorem dX4_readFrom_29 : decode cX4_readFrom 29 = .ok (.iand, 1) := by decide +kernel
theorem dX4_readFrom_30 : decode cX4_readFrom 30 = .ok (.istore 5, 2) := by decide +kernel
theorem dX4_readFrom_32 : decode cX4_readFrom 32 = .ok (.aload_n 0, 1) := by decide +kernel
theorem dX4_readFrom_33 : decode cX4_readFrom 33 = .ok (.getfield 34, 3) := by decide +kernel
theorem dX4_readFrom_36 : decode cX4_readFrom 36 = .ok (.aload_n 0, 1) := by decide +kernel
theorem dX4_readFrom_37 : decode cX4_readFrom 37 = .ok (.iload 5, 2) := by decide +kernel
theorem dX4_readFrom_39 : decode cX4_readFrom 39 = .ok (.invokevirtual 52, 3) := by decide +kernel
theorem dX4_readFrom_42 : decode cX4_readFrom 42 = .ok (.bipush 64, 2) := by decide +kernel
theorem dX4_readFrom_44 : decode cX4_readFrom 44 = .ok (.iload_n 3, 1) := by decide +kernel
theorem dX4_readFrom_45 : decode cX4_readFrom 45 = .ok (.imul, 1) := by decide +kernel
theorem dX4_readFrom_46 : decode cX4_readFrom 46 = .ok (.aload_n 0, 1) := by decide +kernel
theorem dX4_readFrom_47 : decode cX4_readFrom 47 = .ok (.iload 4, 2) := by decide +kernel
theorem dX4_readFrom_49 : decode cX4_readFrom 49 = .ok (.invokevirtual 42, 3) := by decide +kernel
theorem dX4_readFrom_52 : decode cX4_readFrom 52 = .ok (.iadd, 1) := by decide +kernel
theorem dX4_readFrom_53 : decode cX4_readFrom 53 = .ok (.invokevirtual 55, 3) := by decide +kernel
theorem dX4_readFrom_56 : decode cX4_readFrom 56 = .ok (.aload_n 0, 1) := by decide +kernel
theorem dX4_readFrom_57 : decode cX4_readFrom 57 = .ok (.dup, 1) := by decide +kernel
theorem dX4_readFrom_58 : decode cX4_readFrom 58 = .ok (.getfield 59, 3) := by decide +kernel
theorem dX4_readFrom_61 : decode cX4_readFrom 61 = .ok (.iconst 1, 1) := by decide +kernel
theorem dX4_readFrom_62 : decode cX4_readFrom 62 = .ok (.iadd, 1) := by decide +kernel
theorem dX4_readFrom_63 : decode cX4_readFrom 63 = .ok (.putfield 59, 3) := by decide +kernel
theorem dX4_readFrom_66 : decode cX4_readFrom 66 = .ok (.iinc 4 1, 3) := by decide +kernel
theorem dX4_readFrom_69 : decode cX4_readFrom 69 = .ok (.goto (-66), 3) := by decide +kernel
theorem dX4_readFrom_72 : decode cX4_readFrom 72 = .ok (.return_, 1) := by decide +kernel
set_option maxRecDepth 20000 in
theorem ggX4_noteMissing_X4_samplesInFrame : GoodIn wsX4_noteMissing wsX4_samplesInFrame := goodIn_r _ [6, 7, 8, 9, 10, 11, 12, 13, 14, 15, 16, 17] (by decide +kernel) (by decide +kernel)
set_option maxRecDepth 20000 in
theorem gX4_noteMissing_X4_samplesInFrame : GoodIn wsX4_noteMissing (wsV RX4 46 RX4 yX4_samplesInFrame wsX4_samplesInFrame) := goodIn_app (goodIn_of _ (by decide +kernel)) ggX4_noteMissing_X4_samplesInFrame
theorem dX4_noteMissing_0 : decode cX4_noteMissing 0 = .ok (.aload_n 0, 1) := by decide +kernel
theorem dX4_noteMissing_1 : decode cX4_noteMissing 1 = .ok (.dup, 1) := by decide +kernel
theorem dX4_noteMissing_2 : decode cX4_noteMissing 2 = .ok (.getfield 62, 3) := by decide +kernel
theorem dX4_noteMissing_5 : decode cX4_noteMissing 5 = .ok (.aload_n 0, 1) := by decide +kernel
theorem dX4_noteMissing_6 : decode cX4_noteMissing 6 = .ok (.invokevirtual 46, 3) := by decide +kernel
theorem dX4_noteMissing_9 : decode cX4_noteMissing 9 = .ok (.iadd, 1) := by decide +kernel
theorem dX4_noteMissing_10 : decode cX4_noteMissing 10 = .ok (.putfield 62, 3) := by decide +kernel
theorem dX4_noteMissing_13 : decode cX4_noteMissing 13 = .ok (.return_, 1) := by decide +kernel
theorem dX5_init_0 : decode cX5_init 0 = .ok (.aload_n 0, 1) := by decide +kernel
theorem dX5_init_1 : decode cX5_init 1 = .ok (.invokespecial 3, 3) := by decide +kernel
theorem dX5_init_4 : decode cX5_init 4 = .ok (.aload_n 0, 1) := by decide +kernel
theorem dX5_init_5 : decode cX5_init 5 = .ok (.bipush 12, 2) := by decide +kernel
theorem dX5_init_7 : decode cX5_init 7 = .ok (.anewarray 9, 3) := by decide +kernel
theorem dX5_init_10 : decode cX5_init 10 = .ok (.putfield 11, 3) := by decide +kernel
theorem dX5_init_13 : decode cX5_init 13 = .ok (.aload_n 0, 1) := by decide +kernel
theorem dX5_init_14 : decode cX5_init 14 = .ok (.iconst 4, 1) := by decide +kernel
theorem dX5_init_15 : decode cX5_init 15 = .ok (.newarray .long, 2) := by decide +kernel
theorem dX5_init_17 : decode cX5_init 17 = .ok (.putfield 17, 3) := by decide +kernel
theorem dX5_init_20 : decode cX5_init 20 = .ok (.return_, 1) := by decide +kernel
theorem dX5_at_0 : decode cX5_at 0 = .ok (.iload_n 1, 1) := by decide +kernel
theorem dX5_at_1 : decode cX5_at 1 = .ok (.ifCond .lt 20, 3) := by decide +kernel
theorem dX5_at_4 : decode cX5_at 4 = .ok (.iload_n 1, 1) := by decide +kernel
theorem dX5_at_5 : decode cX5_at 5 = .ok (.aload_n 0, 1) := by decide +kernel
theorem dX5_at_6 : decode cX5_at 6 = .ok (.getfield 21, 3) := by decide +kernel
theorem dX5_at_9 : decode cX5_at 9 = .ok (.if_icmp .ge 12, 3) := by decide +kernel
theorem dX5_at_12 : decode cX5_at 12 = .ok (.aload_n 0, 1) := by decide +kernel
theorem dX5_at_13 : decode cX5_at 13 = .ok (.getfield 11, 3) := by decide +kernel
theorem dX5_at_16 : decode cX5_at 16 = .ok (.iload_n 1, 1) := by decide +kernel
theorem dX5_at_17 : decode cX5_at 17 = .ok (.aaload, 1) := by decide +kernel
theorem dX5_at_18 : decode cX5_at 18 = .ok (.goto 4, 3) := by decide +kernel
theorem dX5_at_21 : decode cX5_at 21 = .ok (.aconst_null, 1) := by decide +kernel
theorem dX5_at_22 : decode cX5_at 22 = .ok (.areturn, 1) := by decide +kernel
set_option maxRecDepth 20000 in
theorem ggX5_add_X5_bitsAt : GoodIn wsX5_add wsX5_bitsAt := goodIn_r _ [9] (by decide +kernel) (by decide +kernel)
set_option maxRecDepth 20000 in
theorem gX5_add_X5_bitsAt : GoodIn wsX5_add (va_wsS RX5 25 yX5_bitsAt wsX5_bitsAt) := goodIn_app (goodIn_of _ (by decide +kernel)) ggX5_add_X5_bitsAt
set_option maxRecDepth 20000 in
theorem ggX5_add_X5_isFree : GoodIn wsX5_add wsX5_isFree := goodIn_r _ [13, 14, 38, 39, 40] (by decide +kernel) (by decide +kernel)
set_option maxRecDepth 20000 in
theorem gX5_add_X5_isFree : GoodIn wsX5_add (wsV RX5 29 RX5 yX5_isFree wsX5_isFree) := goodIn_app (goodIn_of _ (by decide +kernel)) ggX5_add_X5_isFree
set_option maxRecDepth 20000 in
theorem ggX5_add_X5_use : GoodIn wsX5_add wsX5_use := goodIn_r _ [18, 14, 38, 39, 40] (by decide +kernel) (by decide +kernel)
set_option maxRecDepth 20000 in
theorem gX5_add_X5_use : GoodIn wsX5_add (wsV RX5 33 RX5 yX5_use wsX5_use) := goodIn_app (goodIn_of _ (by decide +kernel)) ggX5_add_X5_use
set_option maxRecDepth 20000 in
theorem ggX5_add_X4_init : GoodIn wsX5_add wsX4_init := goodIn_r _ [21, 22, 23, 24, 25, 26, 27, 28, 29, 30, 31, 32, 33, 34, 35, 36, 37, 41, 42, 43, 44, 45, 46, 47, 48, 49, 50, 51, 52, 53] (by decide +kernel) (by decide +kernel)
set_option maxRecDepth 20000 in
theorem gX5_add_X4_init : GoodIn wsX5_add (wsX4_init) := ggX5_add_X4_init
theorem dX5_add_0 : decode cX5_add 0 = .ok (.aload_n 0, 1) := by decide +kernel
theorem dX5_add_1 : decode cX5_add 1 = .ok (.getfield 21, 3) := by decide +kernel
theorem dX5_add_4 : decode cX5_add 4 = .ok (.bipush 12, 2) := by decide +kernel
theorem dX5_add_6 : decode cX5_add 6 = .ok (.if_icmp .lt 5, 3) := by decide +kernel
theorem dX5_add_9 : decode cX5_add 9 = .ok (.iconst 0, 1) := by decide +kernel
theorem dX5_add_10 : decode cX5_add 10 = .ok (.ireturn, 1) := by decide +kernel
theorem dX5_add_11 : decode cX5_add 11 = .ok (.iload 4, 2) := by decide +kernel
theorem dX5_add_13 : decode cX5_add 13 = .ok (.ifCond .eq 8, 3) := by decide +kernel
theorem dX5_add_16 : decode cX5_add 16 = .ok (.bipush 24, 2) := by decide +kernel
theorem dX5_add_18 : decode cX5_add 18 = .ok (.goto 5, 3) := by decide +kernel
theorem dX5_add_21 : decode cX5_add 21 = .ok (.bipush 48, 2) := by decide +kernel
theorem dX5_add_23 : decode cX5_add 23 = .ok (.iload_n 1, 1) := by decide +kernel
theorem dX5_add_24 : decode cX5_add 24 = .ok (.isub, 1) := by decide +kernel
theorem dX5_add_25 : decode cX5_add 25 = .ok (.istore 5, 2) := by decide +kernel
theorem dX5_add_27 : decode cX5_add 27 = .ok (.iconst 0, 1) := by decide +kernel
theorem dX5_add_28 : decode cX5_add 28 = .ok (.istore 6, 2) := by decide +kernel
theorem dX5_add_30 : decode cX5_add 30 = .ok (.iload 6, 2) := by decide +kernel
theorem dX5_add_32 : decode cX5_add 32 = .ok (.iload_n 3, 1) := by decide +kernel
theorem dX5_add_33 : decode cX5_add 33 = .ok (.if_icmp .ge 93, 3) := by decide +kernel
theorem dX5_add_36 : decode cX5_add 36 = .ok (.iconst 0, 1) := by decide +kernel
theorem dX5_add_37 : decode cX5_add 37 = .ok (.istore 7, 2) := by decide +kernel
theorem dX5_add_39 : decode cX5_add 39 = .ok (.iload 7, 2) := by decide +kernel
theorem dX5_add_41 : decode cX5_add 41 = .ok (.iload 5, 2) := by decide +kernel
theorem dX5_add_43 : decode cX5_add 43 = .ok (.if_icmp .gt 77, 3) := by decide +kernel
theorem dX5_add_46 : decode cX5_add 46 = .ok (.iload 7, 2) := by decide +kernel
theorem dX5_add_48 : decode cX5_add 48 = .ok (.iload_n 1, 1) := by decide +kernel
theorem dX5_add_49 : decode cX5_add 49 = .ok (.iload 4, 2) := by decide +kernel
theorem dX5_add_51 : decode cX5_add 51 = .ok (.invokestatic 25, 3) := by decide +kernel
theorem dX5_add_54 : decode cX5_add 54 = .ok (.lstore 8, 2) := by decide +kernel
theorem dX5_add_56 : decode cX5_add 56 = .ok (.aload_n 0, 1) := by decide +kernel
theorem dX5_add_57 : decode cX5_add 57 = .ok (.lload 8, 2) := by decide +kernel
theorem dX5_add_59 : decode cX5_add 59 = .ok (.iload_n 3, 1) := by decide +kernel
theorem dX5_add_60 : decode cX5_add 60 = .ok (.iload 6, 2) := by decide +kernel
theorem dX5_add_62 : decode cX5_add 62 = .ok (.invokevirtual 29, 3) := by decide +kernel
theorem dX5_add_65 : decode cX5_add 65 = .ok (.ifCond .eq 49, 3) := by decide +kernel
theorem dX5_add_68 : decode cX5_add 68 = .ok (.aload_n 0, 1) := by decide +kernel
theorem dX5_add_69 : decode cX5_add 69 = .ok (.lload 8, 2) := by decide +kernel
theorem dX5_add_71 : decode cX5_add 71 = .ok (.iload_n 3, 1) := by decide +kernel
theorem dX5_add_72 : decode cX5_add 72 = .ok (.iload 6, 2) := by decide +kernel
theorem dX5_add_74 : decode cX5_add 74 = .ok (.invokevirtual 33, 3) := by decide +kernel
theorem dX5_add_77 : decode cX5_add 77 = .ok (.aload_n 0, 1) := by decide +kernel
theorem dX5_add_78 : decode cX5_add 78 = .ok (.getfield 11, 3) := by decide +kernel
theorem dX5_add_81 : decode cX5_add 81 = .ok (.aload_n 0, 1) := by decide +kernel
theorem dX5_add_82 : decode cX5_add 82 = .ok (.getfield 21, 3) := by decide +kernel
theorem dX5_add_85 : decode cX5_add 85 = .ok (.new 9, 3) := by decide +kernel
theorem dX5_add_88 : decode cX5_add 88 = .ok (.dup, 1) := by decide +kernel
theorem dX5_add_89 : decode cX5_add 89 = .ok (.iload_n 1, 1) := by decide +kernel
theorem dX5_add_90 : decode cX5_add 90 = .ok (.iload_n 2, 1) := by decide +kernel
theorem dX5_add_91 : decode cX5_add 91 = .ok (.iload_n 3, 1) := by decide +kernel
theorem dX5_add_92 : decode cX5_add 92 = .ok (.iload 4, 2) := by decide +kernel
theorem dX5_add_94 : decode cX5_add 94 = .ok (.iload 6, 2) := by decide +kernel
theorem dX5_add_96 : decode cX5_add 96 = .ok (.iload 7, 2) := by decide +kernel
theorem dX5_add_98 : decode cX5_add 98 = .ok (.invokespecial 37, 3) := by decide +kernel
theorem dX5_add_101 : decode cX5_add 101 = .ok (.aastore, 1) := by decide +kernel
theorem dX5_add_102 : decode cX5_add 102 = .ok (.aload_n 0, 1) := by decide +kernel
theorem dX5_add_103 : decode cX5_add 103 = .ok (.dup, 1) := by decide +kernel
theorem dX5_add_104 : decode cX5_add 104 = .ok (.getfield 21, 3) := by decide +kernel
theorem dX5_add_107 : decode cX5_add 107 = .ok (.iconst 1, 1) := by decide +kernel
theorem dX5_add_108 : decode cX5_add 108 = .ok (.iadd, 1) := by decide +kernel
theorem dX5_add_109 : decode cX5_add 109 = .ok (.putfield 21, 3) := by decide +kernel
theorem dX5_add_112 : decode cX5_add 112 = .ok (.iconst 1, 1) := by decide +kernel
theorem dX5_add_113 : decode cX5_add 113 = .ok (.ireturn, 1) := by decide +kernel
theorem dX5_add_114 : decode cX5_add 114 = .ok (.iinc 7 1, 3) := by decide +kernel
theorem dX5_add_117 : decode cX5_add 117 = .ok (.goto (-78), 3) := by decide +kernel
theorem dX5_add_120 : decode cX5_add 120 = .ok (.iinc 6 1, 3) := by decide +kernel
theorem dX5_add_123 : decode cX5_add 123 = .ok (.goto (-93), 3) := by decide +kernel
theorem dX5_add_126 : decode cX5_add 126 = .ok (.iconst 0, 1) := by decide +kernel
theorem dX5_add_127 : decode cX5_add 127 = .ok (.ireturn, 1) := by decide +kernel
theorem dX5_bitsAt_0 : decode cX5_bitsAt 0 = .ok (.lconst 1, 1) := by decide +kernel
theorem dX5_bitsAt_1 : decode cX5_bitsAt 1 = .ok (.iload_n 1, 1) := by decide +kernel
theorem dX5_bitsAt_2 : decode cX5_bitsAt 2 = .ok (.lshl, 1) := by decide +kernel
theorem dX5_bitsAt_3 : decode cX5_bitsAt 3 = .ok (.lconst 1, 1) := by decide +kernel
theorem dX5_bitsAt_4 : decode cX5_bitsAt 4 = .ok (.lsub, 1) := by decide +kernel
theorem dX5_bitsAt_5 : decode cX5_bitsAt 5 = .ok (.iload_n 0, 1) := by decide +kernel
theorem dX5_bitsAt_6 : decode cX5_bitsAt 6 = .ok (.lshl, 1) := by decide +kernel
theorem dX5_bitsAt_7 : decode cX5_bitsAt 7 = .ok (.lstore_n 3, 1) := by decide +kernel
theorem dX5_bitsAt_8 : decode cX5_bitsAt 8 = .ok (.iload_n 2, 1) := by decide +kernel
theorem dX5_bitsAt_9 : decode cX5_bitsAt 9 = .ok (.ifCond .eq 12, 3) := by decide +kernel
theorem dX5_bitsAt_12 : decode cX5_bitsAt 12 = .ok (.lload_n 3, 1) := by decide +kernel
theorem dX5_bitsAt_13 : decode cX5_bitsAt 13 = .ok (.lload_n 3, 1) := by decide +kernel
theorem dX5_bitsAt_14 : decode cX5_bitsAt 14 = .ok (.bipush 24, 2) := by decide +kernel
theorem dX5_bitsAt_16 : decode cX5_bitsAt 16 = .ok (.lshl, 1) := by decide +kernel
theorem dX5_bitsAt_17 : decode cX5_bitsAt 17 = .ok (.lor, 1) := by decide +kernel
theorem dX5_bitsAt_18 : decode cX5_bitsAt 18 = .ok (.goto 4, 3) := by decide +kernel
theorem dX5_bitsAt_21 : decode cX5_bitsAt 21 = .ok (.lload_n 3, 1) := by decide +kernel
theorem dX5_bitsAt_22 : decode cX5_bitsAt 22 = .ok (.lreturn, 1) := by decide +kernel
theorem dX5_isFree_0 : decode cX5_isFree 0 = .ok (.iconst 0, 1) := by decide +kernel
theorem dX5_isFree_1 : decode cX5_isFree 1 = .ok (.istore 5, 2) := by decide +kernel
theorem dX5_isFree_3 : decode cX5_isFree 3 = .ok (.iload 5, 2) := by decide +kernel
theorem dX5_isFree_5 : decode cX5_isFree 5 = .ok (.iconst 4, 1) := by decide +kernel
theorem dX5_isFree_6 : decode cX5_isFree 6 = .ok (.if_icmp .ge 36, 3) := by decide +kernel
theorem dX5_isFree_9 : decode cX5_isFree 9 = .ok (.iload 5, 2) := by decide +kernel
theorem dX5_isFree_11 : decode cX5_isFree 11 = .ok (.iload_n 3, 1) := by decide +kernel
theorem dX5_isFree_12 : decode cX5_isFree 12 = .ok (.iconst 1, 1) := by decide +kernel
theorem dX5_isFree_13 : decode cX5_isFree 13 = .ok (.isub, 1) := by decide +kernel
theorem dX5_isFree_14 : decode cX5_isFree 14 = .ok (.iand, 1) := by decide +kernel
theorem dX5_isFree_15 : decode cX5_isFree 15 = .ok (.iload 4, 2) := by decide +kernel
theorem dX5_isFree_17 : decode cX5_isFree 17 = .ok (.if_icmp .ne 19, 3) := by decide +kernel
theorem dX5_isFree_20 : decode cX5_isFree 20 = .ok (.aload_n 0, 1) := by decide +kernel
theorem dX5_isFree_21 : decode cX5_isFree 21 = .ok (.getfield 17, 3) := by decide +kernel
theorem dX5_isFree_24 : decode cX5_isFree 24 = .ok (.iload 5, 2) := by decide +kernel
theorem dX5_isFree_26 : decode cX5_isFree 26 = .ok (.laload, 1) := by decide +kernel
theorem dX5_isFree_27 : decode cX5_isFree 27 = .ok (.lload_n 1, 1) := by decide +kernel
theorem dX5_isFree_28 : decode cX5_isFree 28 = .ok (.land, 1) := by decide +kernel
theorem dX5_isFree_29 : decode cX5_isFree 29 = .ok (.lconst 0, 1) := by decide +kernel
theorem dX5_isFree_30 : decode cX5_isFree 30 = .ok (.lcmp, 1) := by decide +kernel
theorem dX5_isFree_31 : decode cX5_isFree 31 = .ok (.ifCond .eq 5, 3) := by decide +kernel
theorem dX5_isFree_34 : decode cX5_isFree 34 = .ok (.iconst 0, 1) := by decide +kernel
theorem dX5_isFree_35 : decode cX5_isFree 35 = .ok (.ireturn, 1) := by decide +kernel
theorem dX5_isFree_36 : decode cX5_isFree 36 = .ok (.iinc 5 1, 3) := by decide +kernel
theorem dX5_isFree_39 : decode cX5_isFree 39 = .ok (.goto (-36), 3) := by decide +kernel
theorem dX5_isFree_42 : decode cX5_isFree 42 = .ok (.iconst 1, 1) := by decide +kernel
theorem dX5_isFree_43 : decode cX5_isFree 43 = .ok (.ireturn, 1) := by decide +kernel
theorem dX5_use_0 : decode cX5_use 0 = .ok (.iconst 0, 1) := by decide +kernel
theorem dX5_use_1 : decode cX5_use 1 = .ok (.istore 5, 2) := by decide +kernel
theorem dX5_use_3 : decode cX5_use 3 = .ok (.iload 5, 2) := by decide +kernel
theorem dX5_use_5 : decode cX5_use 5 = .ok (.iconst 4, 1) := by decide +kernel
theorem dX5_use_6 : decode cX5_use 6 = .ok (.if_icmp .ge 31, 3) := by decide +kernel
theorem dX5_use_9 : decode cX5_use 9 = .ok (.iload 5, 2) := by decide +kernel
theorem dX5_use_11 : decode cX5_use 11 = .ok (.iload_n 3, 1) := by decide +kernel
theorem dX5_use_12 : decode cX5_use 12 = .ok (.iconst 1, 1) := by decide +kernel
theorem dX5_use_13 : decode cX5_use 13 = .ok (.isub, 1) := by decide +kernel
theorem dX5_use_14 : decode cX5_use 14 = .ok (.iand, 1) := by decide +kernel
theorem dX5_use_15 : decode cX5_use 15 = .ok (.iload 4, 2) := by decide +kernel
theorem dX5_use_17 : decode cX5_use 17 = .ok (.if_icmp .ne 14, 3) := by decide +kernel
theorem dX5_use_20 : decode cX5_use 20 = .ok (.aload_n 0, 1) := by decide +kernel
theorem dX5_use_21 : decode cX5_use 21 = .ok (.getfield 17, 3) := by decide +kernel
theorem dX5_use_24 : decode cX5_use 24 = .ok (.iload 5, 2) := by decide +kernel
theorem dX5_use_26 : decode cX5_use 26 = .ok (.dup2, 1) := by decide +kernel
theorem dX5_use_27 : decode cX5_use 27 = .ok (.laload, 1) := by decide +kernel
theorem dX5_use_28 : decode cX5_use 28 = .ok (.lload_n 1, 1) := by decide +kernel
theorem dX5_use_29 : decode cX5_use 29 = .ok (.lor, 1) := by decide +kernel
theorem dX5_use_30 : decode cX5_use 30 = .ok (.lastore, 1) := by decide +kernel
theorem dX5_use_31 : decode cX5_use 31 = .ok (.iinc 5 1, 3) := by decide +kernel
theorem dX5_use_34 : decode cX5_use 34 = .ok (.goto (-31), 3) := by decide +kernel
theorem dX5_use_37 : decode cX5_use 37 = .ok (.return_, 1) := by decide +kernel
set_option maxRecDepth 20000 in
theorem ggX5_spareBits_J13_bitCount_95d88 : GoodIn wsX5_spareBits wsJ13_bitCount_95d88 := goodIn_r _ [5, 6, 7, 8] (by decide +kernel) (by decide +kernel)
set_option maxRecDepth 20000 in
theorem gX5_spareBits_J13_bitCount_95d88 : GoodIn wsX5_spareBits (va_wsS RX5 40 yJ13_bitCount_95d88 wsJ13_bitCount_95d88) := goodIn_app (goodIn_of _ (by decide +kernel)) ggX5_spareBits_J13_bitCount_95d88
theorem dX5_spareBits_0 : decode cX5_spareBits 0 = .ok (.sipush 192, 3) := by decide +kernel
theorem dX5_spareBits_3 : decode cX5_spareBits 3 = .ok (.istore_n 1, 1) := by decide +kernel
theorem dX5_spareBits_4 : decode cX5_spareBits 4 = .ok (.iconst 0, 1) := by decide +kernel
theorem dX5_spareBits_5 : decode cX5_spareBits 5 = .ok (.istore_n 2, 1) := by decide +kernel
theorem dX5_spareBits_6 : decode cX5_spareBits 6 = .ok (.iload_n 2, 1) := by decide +kernel
theorem dX5_spareBits_7 : decode cX5_spareBits 7 = .ok (.iconst 4, 1) := by decide +kernel
theorem dX5_spareBits_8 : decode cX5_spareBits 8 = .ok (.if_icmp .ge 21, 3) := by decide +kernel
theorem dX5_spareBits_11 : decode cX5_spareBits 11 = .ok (.iload_n 1, 1) := by decide +kernel
theorem dX5_spareBits_12 : decode cX5_spareBits 12 = .ok (.aload_n 0, 1) := by decide +kernel
theorem dX5_spareBits_13 : decode cX5_spareBits 13 = .ok (.getfield 17, 3) := by decide +kernel
theorem dX5_spareBits_16 : decode cX5_spareBits 16 = .ok (.iload_n 2, 1) := by decide +kernel
theorem dX5_spareBits_17 : decode cX5_spareBits 17 = .ok (.laload, 1) := by decide +kernel
theorem dX5_spareBits_18 : decode cX5_spareBits 18 = .ok (.invokestatic 40, 3) := by decide +kernel
theorem dX5_spareBits_21 : decode cX5_spareBits 21 = .ok (.isub, 1) := by decide +kernel
theorem dX5_spareBits_22 : decode cX5_spareBits 22 = .ok (.istore_n 1, 1) := by decide +kernel
theorem dX5_spareBits_23 : decode cX5_spareBits 23 = .ok (.iinc 2 1, 3) := by decide +kernel
theorem dX5_spareBits_26 : decode cX5_spareBits 26 = .ok (.goto (-20), 3) := by decide +kernel
theorem dX5_spareBits_29 : decode cX5_spareBits 29 = .ok (.iload_n 1, 1) := by decide +kernel
theorem dX5_spareBits_30 : decode cX5_spareBits 30 = .ok (.ireturn, 1) := by decide +kernel
theorem dX6_init_0 : decode cX6_init 0 = .ok (.aload_n 0, 1) := by decide +kernel
theorem dX6_init_1 : decode cX6_init 1 = .ok (.invokespecial 1, 3) := by decide +kernel
theorem dX6_init_4 : decode cX6_init 4 = .ok (.return_, 1) := by decide +kernel
theorem dX6_set_0 : decode cX6_set 0 = .ok (.aload_n 0, 1) := by decide +kernel
theorem dX6_set_1 : decode cX6_set 1 = .ok (.iconst 1, 1) := by decide +kernel
theorem dX6_set_2 : decode cX6_set 2 = .ok (.putfield 7, 3) := by decide +kernel
theorem dX6_set_5 : decode cX6_set 5 = .ok (.aload_n 0, 1) := by decide +kernel
theorem dX6_set_6 : decode cX6_set 6 = .ok (.iload_n 1, 1) := by decide +kernel
theorem dX6_set_7 : decode cX6_set 7 = .ok (.putfield 13, 3) := by decide +kernel
theorem dX6_set_10 : decode cX6_set 10 = .ok (.aload_n 0, 1) := by decide +kernel
theorem dX6_set_11 : decode cX6_set 11 = .ok (.iload_n 2, 1) := by decide +kernel
theorem dX6_set_12 : decode cX6_set 12 = .ok (.putfield 17, 3) := by decide +kernel
theorem dX6_set_15 : decode cX6_set 15 = .ok (.return_, 1) := by decide +kernel
theorem dX6_forget_0 : decode cX6_forget 0 = .ok (.aload_n 0, 1) := by decide +kernel
theorem dX6_forget_1 : decode cX6_forget 1 = .ok (.iconst 0, 1) := by decide +kernel
theorem dX6_forget_2 : decode cX6_forget 2 = .ok (.putfield 7, 3) := by decide +kernel
theorem dX6_forget_5 : decode cX6_forget 5 = .ok (.return_, 1) := by decide +kernel
theorem dX7_init_0 : decode cX7_init 0 = .ok (.aload_n 0, 1) := by decide +kernel
theorem dX7_init_1 : decode cX7_init 1 = .ok (.invokespecial 3, 3) := by decide +kernel
theorem dX7_init_4 : decode cX7_init 4 = .ok (.return_, 1) := by decide +kernel
set_option maxRecDepth 20000 in
theorem ggX7_sendWord_X7_packSamples : GoodIn wsX7_sendWord wsX7_packSamples := goodIn_r _ [8, 3, 9, 10, 11, 12, 13, 14, 15, 16, 17, 18, 19, 20, 21, 22, 23, 24, 25, 26, 27, 28, 29, 30, 31, 32, 33, 34, 35, 36, 37, 38, 39, 40, 41, 42, 43, 44, 45, 46, 47, 57, 58, 59, 55, 56, 60, 61, 62, 63, 64, 65, 66, 67, 68, 69] (by decide +kernel) (by decide +kernel)
set_option maxRecDepth 20000 in
theorem gX7_sendWord_X7_packSamples : GoodIn wsX7_sendWord (wsV RX7 20 RX7 yX7_packSamples wsX7_packSamples) := goodIn_app (goodIn_of _ (by decide +kernel)) ggX7_sendWord_X7_packSamples
set_option maxRecDepth 20000 in
theorem ggX7_sendWord_X3_append : GoodIn wsX7_sendWord wsX3_append := goodIn_r _ [52, 53, 54, 70, 71, 72] (by decide +kernel) (by decide +kernel)
set_option maxRecDepth 20000 in
theorem gX7_sendWord_X3_append : GoodIn wsX7_sendWord (wsV RX7 24 RX3 yX3_append wsX3_append) := goodIn_app (goodIn_of _ (by decide +kernel)) ggX7_sendWord_X3_append
theorem dX7_sendWord_0 : decode cX7_sendWord 0 = .ok (.aload_n 0, 1) := by decide +kernel
theorem dX7_sendWord_1 : decode cX7_sendWord 1 = .ok (.getfield 9, 3) := by decide +kernel
theorem dX7_sendWord_4 : decode cX7_sendWord 4 = .ok (.bipush 8, 2) := by decide +kernel
theorem dX7_sendWord_6 : decode cX7_sendWord 6 = .ok (.irem, 1) := by decide +kernel
theorem dX7_sendWord_7 : decode cX7_sendWord 7 = .ok (.istore_n 3, 1) := by decide +kernel
theorem dX7_sendWord_8 : decode cX7_sendWord 8 = .ok (.aload_n 0, 1) := by decide +kernel
theorem dX7_sendWord_9 : decode cX7_sendWord 9 = .ok (.getfield 9, 3) := by decide +kernel
theorem dX7_sendWord_12 : decode cX7_sendWord 12 = .ok (.bipush 8, 2) := by decide +kernel
theorem dX7_sendWord_14 : decode cX7_sendWord 14 = .ok (.idiv, 1) := by decide +kernel
theorem dX7_sendWord_15 : decode cX7_sendWord 15 = .ok (.sipush 255, 3) := by decide +kernel
theorem dX7_sendWord_18 : decode cX7_sendWord 18 = .ok (.iand, 1) := by decide +kernel
theorem dX7_sendWord_19 : decode cX7_sendWord 19 = .ok (.istore 4, 2) := by decide +kernel
theorem dX7_sendWord_21 : decode cX7_sendWord 21 = .ok (.iload_n 3, 1) := by decide +kernel
theorem dX7_sendWord_22 : decode cX7_sendWord 22 = .ok (.ifCond .ne 16, 3) := by decide +kernel
theorem dX7_sendWord_25 : decode cX7_sendWord 25 = .ok (.aload_n 0, 1) := by decide +kernel
theorem dX7_sendWord_26 : decode cX7_sendWord 26 = .ok (.ldc 15, 2) := by decide +kernel
theorem dX7_sendWord_28 : decode cX7_sendWord 28 = .ok (.iload 4, 2) := by decide +kernel
theorem dX7_sendWord_30 : decode cX7_sendWord 30 = .ok (.ior, 1) := by decide +kernel
theorem dX7_sendWord_31 : decode cX7_sendWord 31 = .ok (.i2l, 1) := by decide +kernel
theorem dX7_sendWord_32 : decode cX7_sendWord 32 = .ok (.bipush 48, 2) := by decide +kernel
theorem dX7_sendWord_34 : decode cX7_sendWord 34 = .ok (.lshl, 1) := by decide +kernel
theorem dX7_sendWord_35 : decode cX7_sendWord 35 = .ok (.putfield 16, 3) := by decide +kernel
theorem dX7_sendWord_38 : decode cX7_sendWord 38 = .ok (.aload_n 0, 1) := by decide +kernel
theorem dX7_sendWord_39 : decode cX7_sendWord 39 = .ok (.aload_n 1, 1) := by decide +kernel
theorem dX7_sendWord_40 : decode cX7_sendWord 40 = .ok (.iload 4, 2) := by decide +kernel
theorem dX7_sendWord_42 : decode cX7_sendWord 42 = .ok (.iload_n 3, 1) := by decide +kernel
theorem dX7_sendWord_43 : decode cX7_sendWord 43 = .ok (.invokevirtual 20, 3) := by decide +kernel
theorem dX7_sendWord_46 : decode cX7_sendWord 46 = .ok (.iconst 1, 1) := by decide +kernel
theorem dX7_sendWord_47 : decode cX7_sendWord 47 = .ok (.istore 5, 2) := by decide +kernel
theorem dX7_sendWord_49 : decode cX7_sendWord 49 = .ok (.iload 5, 2) := by decide +kernel
theorem dX7_sendWord_51 : decode cX7_sendWord 51 = .ok (.bipush 8, 2) := by decide +kernel
theorem dX7_sendWord_53 : decode cX7_sendWord 53 = .ok (.if_icmp .gt 35, 3) := by decide +kernel
theorem dX7_sendWord_56 : decode cX7_sendWord 56 = .ok (.bipush 64, 2) := by decide +kernel
theorem dX7_sendWord_58 : decode cX7_sendWord 58 = .ok (.iload_n 3, 1) := by decide +kernel
theorem dX7_sendWord_59 : decode cX7_sendWord 59 = .ok (.bipush 8, 2) := by decide +kernel
theorem dX7_sendWord_61 : decode cX7_sendWord 61 = .ok (.imul, 1) := by decide +kernel
theorem dX7_sendWord_62 : decode cX7_sendWord 62 = .ok (.isub, 1) := by decide +kernel
theorem dX7_sendWord_63 : decode cX7_sendWord 63 = .ok (.iload 5, 2) := by decide +kernel
theorem dX7_sendWord_65 : decode cX7_sendWord 65 = .ok (.isub, 1) := by decide +kernel
theorem dX7_sendWord_66 : decode cX7_sendWord 66 = .ok (.istore 6, 2) := by decide +kernel
theorem dX7_sendWord_68 : decode cX7_sendWord 68 = .ok (.aload_n 2, 1) := by decide +kernel
theorem dX7_sendWord_69 : decode cX7_sendWord 69 = .ok (.aload_n 0, 1) := by decide +kernel
theorem dX7_sendWord_70 : decode cX7_sendWord 70 = .ok (.getfield 16, 3) := by decide +kernel
theorem dX7_sendWord_73 : decode cX7_sendWord 73 = .ok (.iload 6, 2) := by decide +kernel
theorem dX7_sendWord_75 : decode cX7_sendWord 75 = .ok (.lushr, 1) := by decide +kernel
theorem dX7_sendWord_76 : decode cX7_sendWord 76 = .ok (.l2i, 1) := by decide +kernel
theorem dX7_sendWord_77 : decode cX7_sendWord 77 = .ok (.iconst 1, 1) := by decide +kernel
theorem dX7_sendWord_78 : decode cX7_sendWord 78 = .ok (.iand, 1) := by decide +kernel
theorem dX7_sendWord_79 : decode cX7_sendWord 79 = .ok (.invokevirtual 24, 3) := by decide +kernel
theorem dX7_sendWord_82 : decode cX7_sendWord 82 = .ok (.iinc 5 1, 3) := by decide +kernel
theorem dX7_sendWord_85 : decode cX7_sendWord 85 = .ok (.goto (-36), 3) := by decide +kernel
theorem dX7_sendWord_88 : decode cX7_sendWord 88 = .ok (.aload_n 0, 1) := by decide +kernel
end
section
theorem dX7_sendWord_89 : decode cX7_sendWord 89 = .ok (.dup, 1) := by decide +kernel
theorem dX7_sendWord_90 : decode cX7_sendWord 90 = .ok (.getfield 9, 3) := by decide +kernel
theorem dX7_sendWord_93 : decode cX7_sendWord 93 = .ok (.iconst 1, 1) := by decide +kernel
theorem dX7_sendWord_94 : decode cX7_sendWord 94 = .ok (.iadd, 1) := by decide +kernel
theorem dX7_sendWord_95 : decode cX7_sendWord 95 = .ok (.putfield 9, 3) := by decide +kernel
theorem dX7_sendWord_98 : decode cX7_sendWord 98 = .ok (.return_, 1) := by decide +kernel
set_option maxRecDepth 20000 in
theorem ggX7_packSamples_X5_at : GoodIn wsX7_packSamples wsX5_at := goodIn_r _ [6, 7, 8, 41, 42, 43] (by decide +kernel) (by decide +kernel)
set_option maxRecDepth 20000 in
theorem gX7_packSamples_X5_at : GoodIn wsX7_packSamples (wsV RX7 35 RX5 yX5_at wsX5_at) := goodIn_app (goodIn_of _ (by decide +kernel)) ggX7_packSamples_X5_at
set_option maxRecDepth 20000 in
theorem ggX7_packSamples_X4_isSentIn : GoodIn wsX7_packSamples wsX4_isSentIn := goodIn_r _ [13, 14, 15, 46, 47, 48, 49, 50, 51, 52, 53, 54, 55] (by decide +kernel) (by decide +kernel)
set_option maxRecDepth 20000 in
theorem gX7_packSamples_X4_isSentIn : GoodIn wsX7_packSamples (wsV RX7 39 RX4 yX4_isSentIn wsX4_isSentIn) := goodIn_app (goodIn_of _ (by decide +kernel)) ggX7_packSamples_X4_isSentIn
set_option maxRecDepth 20000 in
theorem ggX7_packSamples_X4_samplesInFrame : GoodIn wsX7_packSamples wsX4_samplesInFrame := goodIn_r _ [19, 20, 46, 47, 48, 49, 50, 51, 52, 53, 54, 55] (by decide +kernel) (by decide +kernel)
set_option maxRecDepth 20000 in
theorem gX7_packSamples_X4_samplesInFrame : GoodIn wsX7_packSamples (wsV RX7 45 RX4 yX4_samplesInFrame wsX4_samplesInFrame) := goodIn_app (goodIn_of _ (by decide +kernel)) ggX7_packSamples_X4_samplesInFrame
set_option maxRecDepth 20000 in
theorem ggX7_packSamples_X4_firstBit : GoodIn wsX7_packSamples wsX4_firstBit := goodIn_r _ [24, 25, 46, 47, 48, 49, 50, 51, 52, 53, 54, 55] (by decide +kernel) (by decide +kernel)
set_option maxRecDepth 20000 in
theorem gX7_packSamples_X4_firstBit : GoodIn wsX7_packSamples (wsV RX7 49 RX4 yX4_firstBit wsX4_firstBit) := goodIn_app (goodIn_of _ (by decide +kernel)) ggX7_packSamples_X4_firstBit
set_option maxRecDepth 20000 in
theorem ggX7_packSamples_X4_encode : GoodIn wsX7_packSamples wsX4_encode := goodIn_r _ [29, 30, 31, 32, 33, 34, 12, 35, 46, 47, 48, 49, 50, 51, 52, 53, 54, 55] (by decide +kernel) (by decide +kernel)
set_option maxRecDepth 20000 in
theorem gX7_packSamples_X4_encode : GoodIn wsX7_packSamples (wsV RX7 56 RX4 yX4_encode wsX4_encode) := goodIn_app (goodIn_of _ (by decide +kernel)) ggX7_packSamples_X4_encode
set_option maxRecDepth 20000 in
theorem ggX7_packSamples_X4_shift : GoodIn wsX7_packSamples wsX4_shift := goodIn_r _ [39, 31, 40, 22, 23, 12, 24, 25, 46, 47, 48, 49, 50, 51, 52, 53, 54, 55] (by decide +kernel) (by decide +kernel)
set_option maxRecDepth 20000 in
theorem gX7_packSamples_X4_shift : GoodIn wsX7_packSamples (wsV RX7 59 RX4 yX4_shift wsX4_shift) := goodIn_app (goodIn_of _ (by decide +kernel)) ggX7_packSamples_X4_shift
theorem dX7_packSamples_0 : decode cX7_packSamples 0 = .ok (.iconst 0, 1) := by decide +kernel
theorem dX7_packSamples_1 : decode cX7_packSamples 1 = .ok (.istore 4, 2) := by decide +kernel
theorem dX7_packSamples_3 : decode cX7_packSamples 3 = .ok (.iload 4, 2) := by decide +kernel
theorem dX7_packSamples_5 : decode cX7_packSamples 5 = .ok (.aload_n 1, 1) := by decide +kernel
theorem dX7_packSamples_6 : decode cX7_packSamples 6 = .ok (.getfield 30, 3) := by decide +kernel
theorem dX7_packSamples_9 : decode cX7_packSamples 9 = .ok (.if_icmp .ge 95, 3) := by decide +kernel
theorem dX7_packSamples_12 : decode cX7_packSamples 12 = .ok (.aload_n 1, 1) := by decide +kernel
theorem dX7_packSamples_13 : decode cX7_packSamples 13 = .ok (.iload 4, 2) := by decide +kernel
theorem dX7_packSamples_15 : decode cX7_packSamples 15 = .ok (.invokevirtual 35, 3) := by decide +kernel
theorem dX7_packSamples_18 : decode cX7_packSamples 18 = .ok (.astore 5, 2) := by decide +kernel
theorem dX7_packSamples_20 : decode cX7_packSamples 20 = .ok (.aload 5, 2) := by decide +kernel
theorem dX7_packSamples_22 : decode cX7_packSamples 22 = .ok (.ifnull 76, 3) := by decide +kernel
theorem dX7_packSamples_25 : decode cX7_packSamples 25 = .ok (.aload 5, 2) := by decide +kernel
theorem dX7_packSamples_27 : decode cX7_packSamples 27 = .ok (.iload_n 2, 1) := by decide +kernel
theorem dX7_packSamples_28 : decode cX7_packSamples 28 = .ok (.invokevirtual 39, 3) := by decide +kernel
theorem dX7_packSamples_31 : decode cX7_packSamples 31 = .ok (.ifCond .ne 6, 3) := by decide +kernel
theorem dX7_packSamples_34 : decode cX7_packSamples 34 = .ok (.goto 64, 3) := by decide +kernel
theorem dX7_packSamples_37 : decode cX7_packSamples 37 = .ok (.iconst 0, 1) := by decide +kernel
theorem dX7_packSamples_38 : decode cX7_packSamples 38 = .ok (.istore 6, 2) := by decide +kernel
theorem dX7_packSamples_40 : decode cX7_packSamples 40 = .ok (.iload 6, 2) := by decide +kernel
theorem dX7_packSamples_42 : decode cX7_packSamples 42 = .ok (.aload 5, 2) := by decide +kernel
theorem dX7_packSamples_44 : decode cX7_packSamples 44 = .ok (.invokevirtual 45, 3) := by decide +kernel
theorem dX7_packSamples_47 : decode cX7_packSamples 47 = .ok (.if_icmp .ge 51, 3) := by decide +kernel
theorem dX7_packSamples_50 : decode cX7_packSamples 50 = .ok (.aload 5, 2) := by decide +kernel
theorem dX7_packSamples_52 : decode cX7_packSamples 52 = .ok (.iload 6, 2) := by decide +kernel
theorem dX7_packSamples_54 : decode cX7_packSamples 54 = .ok (.invokevirtual 49, 3) := by decide +kernel
theorem dX7_packSamples_57 : decode cX7_packSamples 57 = .ok (.bipush 8, 2) := by decide +kernel
theorem dX7_packSamples_59 : decode cX7_packSamples 59 = .ok (.idiv, 1) := by decide +kernel
theorem dX7_packSamples_60 : decode cX7_packSamples 60 = .ok (.iload_n 3, 1) := by decide +kernel
theorem dX7_packSamples_61 : decode cX7_packSamples 61 = .ok (.if_icmp .ne 31, 3) := by decide +kernel
theorem dX7_packSamples_64 : decode cX7_packSamples 64 = .ok (.aload_n 0, 1) := by decide +kernel
theorem dX7_packSamples_65 : decode cX7_packSamples 65 = .ok (.dup, 1) := by decide +kernel
theorem dX7_packSamples_66 : decode cX7_packSamples 66 = .ok (.getfield 16, 3) := by decide +kernel
theorem dX7_packSamples_69 : decode cX7_packSamples 69 = .ok (.aload 5, 2) := by decide +kernel
theorem dX7_packSamples_71 : decode cX7_packSamples 71 = .ok (.aload 5, 2) := by decide +kernel
theorem dX7_packSamples_73 : decode cX7_packSamples 73 = .ok (.getfield 53, 3) := by decide +kernel
theorem dX7_packSamples_76 : decode cX7_packSamples 76 = .ok (.invokevirtual 56, 3) := by decide +kernel
theorem dX7_packSamples_79 : decode cX7_packSamples 79 = .ok (.i2l, 1) := by decide +kernel
theorem dX7_packSamples_80 : decode cX7_packSamples 80 = .ok (.aload 5, 2) := by decide +kernel
theorem dX7_packSamples_82 : decode cX7_packSamples 82 = .ok (.iload 6, 2) := by decide +kernel
theorem dX7_packSamples_84 : decode cX7_packSamples 84 = .ok (.invokevirtual 59, 3) := by decide +kernel
theorem dX7_packSamples_87 : decode cX7_packSamples 87 = .ok (.lshl, 1) := by decide +kernel
theorem dX7_packSamples_88 : decode cX7_packSamples 88 = .ok (.lor, 1) := by decide +kernel
theorem dX7_packSamples_89 : decode cX7_packSamples 89 = .ok (.putfield 16, 3) := by decide +kernel
theorem dX7_packSamples_92 : decode cX7_packSamples 92 = .ok (.iinc 6 1, 3) := by decide +kernel
theorem dX7_packSamples_95 : decode cX7_packSamples 95 = .ok (.goto (-55), 3) := by decide +kernel
theorem dX7_packSamples_98 : decode cX7_packSamples 98 = .ok (.iinc 4 1, 3) := by decide +kernel
theorem dX7_packSamples_101 : decode cX7_packSamples 101 = .ok (.goto (-98), 3) := by decide +kernel
theorem dX7_packSamples_104 : decode cX7_packSamples 104 = .ok (.return_, 1) := by decide +kernel
theorem dX8_init_0 : decode cX8_init 0 = .ok (.aload_n 0, 1) := by decide +kernel
theorem dX8_init_1 : decode cX8_init 1 = .ok (.invokespecial 3, 3) := by decide +kernel
theorem dX8_init_4 : decode cX8_init 4 = .ok (.aload_n 0, 1) := by decide +kernel
theorem dX8_init_5 : decode cX8_init 5 = .ok (.iconst 0, 1) := by decide +kernel
theorem dX8_init_6 : decode cX8_init 6 = .ok (.putfield 9, 3) := by decide +kernel
theorem dX8_init_9 : decode cX8_init 9 = .ok (.aload_n 0, 1) := by decide +kernel
theorem dX8_init_10 : decode cX8_init 10 = .ok (.bipush 64, 2) := by decide +kernel
theorem dX8_init_12 : decode cX8_init 12 = .ok (.newarray .int, 2) := by decide +kernel
theorem dX8_init_14 : decode cX8_init 14 = .ok (.putfield 15, 3) := by decide +kernel
theorem dX8_init_17 : decode cX8_init 17 = .ok (.return_, 1) := by decide +kernel
set_option maxRecDepth 20000 in
theorem ggX8_take_X8_isSyncWord : GoodIn wsX8_take wsX8_isSyncWord := goodIn_r _ [10, 11, 12, 13, 9, 14, 1, 40, 41, 42, 43, 44, 45, 46] (by decide +kernel) (by decide +kernel)
set_option maxRecDepth 20000 in
theorem gX8_take_X8_isSyncWord : GoodIn wsX8_take (wsV RX8 26 RX8 yX8_isSyncWord wsX8_isSyncWord) := goodIn_app (goodIn_of _ (by decide +kernel)) ggX8_take_X8_isSyncWord
set_option maxRecDepth 20000 in
theorem ggX8_take_X8_search : GoodIn wsX8_take wsX8_search := goodIn_r _ [18, 4, 19, 5, 6, 7, 8, 9, 10, 11, 12, 13, 14, 1, 40, 41, 42, 43, 44, 45, 46] (by decide +kernel) (by decide +kernel)
set_option maxRecDepth 20000 in
theorem gX8_take_X8_search : GoodIn wsX8_take (wsV RX8 30 RX8 yX8_search wsX8_search) := goodIn_app (goodIn_of _ (by decide +kernel)) ggX8_take_X8_search
set_option maxRecDepth 20000 in
theorem ggX8_take_X8_judgeSyncWord : GoodIn wsX8_take wsX8_judgeSyncWord := goodIn_r _ [23, 4, 24, 25, 26, 9, 27, 19, 28, 6, 7, 8, 10, 11, 12, 13, 14, 1, 29, 30, 31, 32, 33, 34, 35, 36, 37, 38, 39, 40, 41, 42, 43, 44, 45, 46] (by decide +kernel) (by decide +kernel)
set_option maxRecDepth 20000 in
theorem gX8_take_X8_judgeSyncWord : GoodIn wsX8_take (wsV RX8 36 RX8 yX8_judgeSyncWord wsX8_judgeSyncWord) := goodIn_app (goodIn_of _ (by decide +kernel)) ggX8_take_X8_judgeSyncWord
theorem dX8_take_0 : decode cX8_take 0 = .ok (.aload_n 0, 1) := by decide +kernel
theorem dX8_take_1 : decode cX8_take 1 = .ok (.aload_n 0, 1) := by decide +kernel
theorem dX8_take_2 : decode cX8_take 2 = .ok (.getfield 19, 3) := by decide +kernel
theorem dX8_take_5 : decode cX8_take 5 = .ok (.iconst 1, 1) := by decide +kernel
theorem dX8_take_6 : decode cX8_take 6 = .ok (.lshl, 1) := by decide +kernel
theorem dX8_take_7 : decode cX8_take 7 = .ok (.iload_n 1, 1) := by decide +kernel
theorem dX8_take_8 : decode cX8_take 8 = .ok (.i2l, 1) := by decide +kernel
theorem dX8_take_9 : decode cX8_take 9 = .ok (.lor, 1) := by decide +kernel
theorem dX8_take_10 : decode cX8_take 10 = .ok (.putfield 19, 3) := by decide +kernel
theorem dX8_take_13 : decode cX8_take 13 = .ok (.aload_n 0, 1) := by decide +kernel
theorem dX8_take_14 : decode cX8_take 14 = .ok (.dup, 1) := by decide +kernel
theorem dX8_take_15 : decode cX8_take 15 = .ok (.getfield 23, 3) := by decide +kernel
theorem dX8_take_18 : decode cX8_take 18 = .ok (.iconst 1, 1) := by decide +kernel
theorem dX8_take_19 : decode cX8_take 19 = .ok (.iadd, 1) := by decide +kernel
theorem dX8_take_20 : decode cX8_take 20 = .ok (.putfield 23, 3) := by decide +kernel
theorem dX8_take_23 : decode cX8_take 23 = .ok (.aload_n 0, 1) := by decide +kernel
theorem dX8_take_24 : decode cX8_take 24 = .ok (.invokevirtual 26, 3) := by decide +kernel
theorem dX8_take_27 : decode cX8_take 27 = .ok (.ifCond .eq 22, 3) := by decide +kernel
theorem dX8_take_30 : decode cX8_take 30 = .ok (.aload_n 0, 1) := by decide +kernel
theorem dX8_take_31 : decode cX8_take 31 = .ok (.getfield 15, 3) := by decide +kernel
theorem dX8_take_34 : decode cX8_take 34 = .ok (.aload_n 0, 1) := by decide +kernel
theorem dX8_take_35 : decode cX8_take 35 = .ok (.getfield 23, 3) := by decide +kernel
theorem dX8_take_38 : decode cX8_take 38 = .ok (.bipush 8, 2) := by decide +kernel
theorem dX8_take_40 : decode cX8_take 40 = .ok (.isub, 1) := by decide +kernel
theorem dX8_take_41 : decode cX8_take 41 = .ok (.bipush 63, 2) := by decide +kernel
theorem dX8_take_43 : decode cX8_take 43 = .ok (.iand, 1) := by decide +kernel
theorem dX8_take_44 : decode cX8_take 44 = .ok (.dup2, 1) := by decide +kernel
theorem dX8_take_45 : decode cX8_take 45 = .ok (.iaload, 1) := by decide +kernel
theorem dX8_take_46 : decode cX8_take 46 = .ok (.iconst 1, 1) := by decide +kernel
theorem dX8_take_47 : decode cX8_take 47 = .ok (.iadd, 1) := by decide +kernel
theorem dX8_take_48 : decode cX8_take 48 = .ok (.iastore, 1) := by decide +kernel
theorem dX8_take_49 : decode cX8_take 49 = .ok (.aload_n 0, 1) := by decide +kernel
theorem dX8_take_50 : decode cX8_take 50 = .ok (.getfield 9, 3) := by decide +kernel
theorem dX8_take_53 : decode cX8_take 53 = .ok (.ifCond .ne 9, 3) := by decide +kernel
theorem dX8_take_56 : decode cX8_take 56 = .ok (.aload_n 0, 1) := by decide +kernel
theorem dX8_take_57 : decode cX8_take 57 = .ok (.invokevirtual 30, 3) := by decide +kernel
theorem dX8_take_60 : decode cX8_take 60 = .ok (.iconst 0, 1) := by decide +kernel
theorem dX8_take_61 : decode cX8_take 61 = .ok (.ireturn, 1) := by decide +kernel
theorem dX8_take_62 : decode cX8_take 62 = .ok (.aload_n 0, 1) := by decide +kernel
theorem dX8_take_63 : decode cX8_take 63 = .ok (.dup, 1) := by decide +kernel
theorem dX8_take_64 : decode cX8_take 64 = .ok (.getfield 33, 3) := by decide +kernel
theorem dX8_take_67 : decode cX8_take 67 = .ok (.iconst 1, 1) := by decide +kernel
theorem dX8_take_68 : decode cX8_take 68 = .ok (.iadd, 1) := by decide +kernel
theorem dX8_take_69 : decode cX8_take 69 = .ok (.putfield 33, 3) := by decide +kernel
theorem dX8_take_72 : decode cX8_take 72 = .ok (.aload_n 0, 1) := by decide +kernel
theorem dX8_take_73 : decode cX8_take 73 = .ok (.getfield 33, 3) := by decide +kernel
theorem dX8_take_76 : decode cX8_take 76 = .ok (.bipush 8, 2) := by decide +kernel
theorem dX8_take_78 : decode cX8_take 78 = .ok (.if_icmp .ne 7, 3) := by decide +kernel
theorem dX8_take_81 : decode cX8_take 81 = .ok (.aload_n 0, 1) := by decide +kernel
theorem dX8_take_82 : decode cX8_take 82 = .ok (.invokevirtual 36, 3) := by decide +kernel
theorem dX8_take_85 : decode cX8_take 85 = .ok (.aload_n 0, 1) := by decide +kernel
theorem dX8_take_86 : decode cX8_take 86 = .ok (.getfield 33, 3) := by decide +kernel
theorem dX8_take_89 : decode cX8_take 89 = .ok (.bipush 64, 2) := by decide +kernel
theorem dX8_take_91 : decode cX8_take 91 = .ok (.if_icmp .ge 5, 3) := by decide +kernel
theorem dX8_take_94 : decode cX8_take 94 = .ok (.iconst 0, 1) := by decide +kernel
theorem dX8_take_95 : decode cX8_take 95 = .ok (.ireturn, 1) := by decide +kernel
theorem dX8_take_96 : decode cX8_take 96 = .ok (.aload_n 0, 1) := by decide +kernel
theorem dX8_take_97 : decode cX8_take 97 = .ok (.iconst 0, 1) := by decide +kernel
theorem dX8_take_98 : decode cX8_take 98 = .ok (.putfield 33, 3) := by decide +kernel
theorem dX8_take_101 : decode cX8_take 101 = .ok (.aload_n 0, 1) := by decide +kernel
theorem dX8_take_102 : decode cX8_take 102 = .ok (.getfield 9, 3) := by decide +kernel
theorem dX8_take_105 : decode cX8_take 105 = .ok (.iconst 2, 1) := by decide +kernel
theorem dX8_take_106 : decode cX8_take 106 = .ok (.if_icmp .ne 7, 3) := by decide +kernel
theorem dX8_take_109 : decode cX8_take 109 = .ok (.iconst 1, 1) := by decide +kernel
theorem dX8_take_110 : decode cX8_take 110 = .ok (.goto 4, 3) := by decide +kernel
theorem dX8_take_113 : decode cX8_take 113 = .ok (.iconst 0, 1) := by decide +kernel
theorem dX8_take_114 : decode cX8_take 114 = .ok (.ireturn, 1) := by decide +kernel
theorem dX8_syncWordsAt_0 : decode cX8_syncWordsAt 0 = .ok (.iload_n 1, 1) := by decide +kernel
theorem dX8_syncWordsAt_1 : decode cX8_syncWordsAt 1 = .ok (.ifCond .lt 21, 3) := by decide +kernel
theorem dX8_syncWordsAt_4 : decode cX8_syncWordsAt 4 = .ok (.iload_n 1, 1) := by decide +kernel
theorem dX8_syncWordsAt_5 : decode cX8_syncWordsAt 5 = .ok (.aload_n 0, 1) := by decide +kernel
theorem dX8_syncWordsAt_6 : decode cX8_syncWordsAt 6 = .ok (.getfield 15, 3) := by decide +kernel
theorem dX8_syncWordsAt_9 : decode cX8_syncWordsAt 9 = .ok (.arraylength, 1) := by decide +kernel
theorem dX8_syncWordsAt_10 : decode cX8_syncWordsAt 10 = .ok (.if_icmp .ge 12, 3) := by decide +kernel
theorem dX8_syncWordsAt_13 : decode cX8_syncWordsAt 13 = .ok (.aload_n 0, 1) := by decide +kernel
theorem dX8_syncWordsAt_14 : decode cX8_syncWordsAt 14 = .ok (.getfield 15, 3) := by decide +kernel
theorem dX8_syncWordsAt_17 : decode cX8_syncWordsAt 17 = .ok (.iload_n 1, 1) := by decide +kernel
theorem dX8_syncWordsAt_18 : decode cX8_syncWordsAt 18 = .ok (.iaload, 1) := by decide +kernel
theorem dX8_syncWordsAt_19 : decode cX8_syncWordsAt 19 = .ok (.goto 4, 3) := by decide +kernel
theorem dX8_syncWordsAt_22 : decode cX8_syncWordsAt 22 = .ok (.iconst 0, 1) := by decide +kernel
theorem dX8_syncWordsAt_23 : decode cX8_syncWordsAt 23 = .ok (.ireturn, 1) := by decide +kernel
theorem dX8_latestWord_0 : decode cX8_latestWord 0 = .ok (.aload_n 0, 1) := by decide +kernel
theorem dX8_latestWord_1 : decode cX8_latestWord 1 = .ok (.getfield 19, 3) := by decide +kernel
theorem dX8_latestWord_4 : decode cX8_latestWord 4 = .ok (.l2i, 1) := by decide +kernel
theorem dX8_latestWord_5 : decode cX8_latestWord 5 = .ok (.sipush 255, 3) := by decide +kernel
theorem dX8_latestWord_8 : decode cX8_latestWord 8 = .ok (.iand, 1) := by decide +kernel
theorem dX8_latestWord_9 : decode cX8_latestWord 9 = .ok (.ireturn, 1) := by decide +kernel
set_option maxRecDepth 20000 in
theorem ggX8_isSyncWord_X8_latestWord : GoodIn wsX8_isSyncWord wsX8_latestWord := goodIn_r _ [5, 6, 7, 8, 9, 10, 11, 12, 13] (by decide +kernel) (by decide +kernel)
set_option maxRecDepth 20000 in
theorem gX8_isSyncWord_X8_latestWord : GoodIn wsX8_isSyncWord (wsV RX8 39 RX8 yX8_latestWord wsX8_latestWord) := goodIn_app (goodIn_of _ (by decide +kernel)) ggX8_isSyncWord_X8_latestWord
theorem dX8_isSyncWord_0 : decode cX8_isSyncWord 0 = .ok (.aload_n 0, 1) := by decide +kernel
theorem dX8_isSyncWord_1 : decode cX8_isSyncWord 1 = .ok (.invokevirtual 39, 3) := by decide +kernel
theorem dX8_isSyncWord_4 : decode cX8_isSyncWord 4 = .ok (.sipush 184, 3) := by decide +kernel
theorem dX8_isSyncWord_7 : decode cX8_isSyncWord 7 = .ok (.if_icmp .ne 7, 3) := by decide +kernel
theorem dX8_isSyncWord_10 : decode cX8_isSyncWord 10 = .ok (.iconst 1, 1) := by decide +kernel
theorem dX8_isSyncWord_11 : decode cX8_isSyncWord 11 = .ok (.goto 4, 3) := by decide +kernel
theorem dX8_isSyncWord_14 : decode cX8_isSyncWord 14 = .ok (.iconst 0, 1) := by decide +kernel
theorem dX8_isSyncWord_15 : decode cX8_isSyncWord 15 = .ok (.ireturn, 1) := by decide +kernel
set_option maxRecDepth 20000 in
theorem ggX8_search_X8_isSyncWord : GoodIn wsX8_search wsX8_isSyncWord := goodIn_r _ [8, 9, 10, 11, 7, 12, 13, 14, 15, 16, 17, 18, 19, 20] (by decide +kernel) (by decide +kernel)
set_option maxRecDepth 20000 in
theorem gX8_search_X8_isSyncWord : GoodIn wsX8_search (wsV RX8 26 RX8 yX8_isSyncWord wsX8_isSyncWord) := goodIn_app (goodIn_of _ (by decide +kernel)) ggX8_search_X8_isSyncWord
theorem dX8_search_0 : decode cX8_search 0 = .ok (.aload_n 0, 1) := by decide +kernel
theorem dX8_search_1 : decode cX8_search 1 = .ok (.invokevirtual 26, 3) := by decide +kernel
theorem dX8_search_4 : decode cX8_search 4 = .ok (.ifCond .eq 19, 3) := by decide +kernel
theorem dX8_search_7 : decode cX8_search 7 = .ok (.aload_n 0, 1) := by decide +kernel
theorem dX8_search_8 : decode cX8_search 8 = .ok (.iconst 1, 1) := by decide +kernel
theorem dX8_search_9 : decode cX8_search 9 = .ok (.putfield 9, 3) := by decide +kernel
theorem dX8_search_12 : decode cX8_search 12 = .ok (.aload_n 0, 1) := by decide +kernel
theorem dX8_search_13 : decode cX8_search 13 = .ok (.iconst 1, 1) := by decide +kernel
theorem dX8_search_14 : decode cX8_search 14 = .ok (.putfield 43, 3) := by decide +kernel
theorem dX8_search_17 : decode cX8_search 17 = .ok (.aload_n 0, 1) := by decide +kernel
theorem dX8_search_18 : decode cX8_search 18 = .ok (.bipush 8, 2) := by decide +kernel
theorem dX8_search_20 : decode cX8_search 20 = .ok (.putfield 33, 3) := by decide +kernel
theorem dX8_search_23 : decode cX8_search 23 = .ok (.return_, 1) := by decide +kernel
set_option maxRecDepth 20000 in
theorem ggX8_judgeSyncWord_X8_check : GoodIn wsX8_judgeSyncWord wsX8_check := goodIn_r _ [6, 1, 7, 8, 9, 10, 11, 5, 12, 13, 14, 15, 16, 17, 29, 30, 31, 32, 33, 34, 35] (by decide +kernel) (by decide +kernel)
set_option maxRecDepth 20000 in
theorem gX8_judgeSyncWord_X8_check : GoodIn wsX8_judgeSyncWord (wsV RX8 46 RX8 yX8_check wsX8_check) := goodIn_app (goodIn_of _ (by decide +kernel)) ggX8_judgeSyncWord_X8_check
set_option maxRecDepth 20000 in
theorem ggX8_judgeSyncWord_X8_keepLock : GoodIn wsX8_judgeSyncWord wsX8_keepLock := goodIn_r _ [21, 8, 1, 13, 14, 15, 5, 16, 17, 22, 23, 24, 25, 26, 27, 28, 29, 30, 31, 32, 33, 34, 35] (by decide +kernel) (by decide +kernel)
set_option maxRecDepth 20000 in
theorem gX8_judgeSyncWord_X8_keepLock : GoodIn wsX8_judgeSyncWord (wsV RX8 49 RX8 yX8_keepLock wsX8_keepLock) := goodIn_app (goodIn_of _ (by decide +kernel)) ggX8_judgeSyncWord_X8_keepLock
theorem dX8_judgeSyncWord_0 : decode cX8_judgeSyncWord 0 = .ok (.aload_n 0, 1) := by decide +kernel
theorem dX8_judgeSyncWord_1 : decode cX8_judgeSyncWord 1 = .ok (.getfield 9, 3) := by decide +kernel
theorem dX8_judgeSyncWord_4 : decode cX8_judgeSyncWord 4 = .ok (.iconst 1, 1) := by decide +kernel
theorem dX8_judgeSyncWord_5 : decode cX8_judgeSyncWord 5 = .ok (.if_icmp .ne 10, 3) := by decide +kernel
theorem dX8_judgeSyncWord_8 : decode cX8_judgeSyncWord 8 = .ok (.aload_n 0, 1) := by decide +kernel
theorem dX8_judgeSyncWord_9 : decode cX8_judgeSyncWord 9 = .ok (.invokevirtual 46, 3) := by decide +kernel
theorem dX8_judgeSyncWord_12 : decode cX8_judgeSyncWord 12 = .ok (.goto 7, 3) := by decide +kernel
theorem dX8_judgeSyncWord_15 : decode cX8_judgeSyncWord 15 = .ok (.aload_n 0, 1) := by decide +kernel
theorem dX8_judgeSyncWord_16 : decode cX8_judgeSyncWord 16 = .ok (.invokevirtual 49, 3) := by decide +kernel
theorem dX8_judgeSyncWord_19 : decode cX8_judgeSyncWord 19 = .ok (.return_, 1) := by decide +kernel
set_option maxRecDepth 20000 in
theorem ggX8_check_X8_isSyncWord : GoodIn wsX8_check wsX8_isSyncWord := goodIn_r _ [8, 9, 10, 11, 7, 12, 13, 14, 15, 16, 17, 18, 19, 20] (by decide +kernel) (by decide +kernel)
set_option maxRecDepth 20000 in
theorem gX8_check_X8_isSyncWord : GoodIn wsX8_check (wsV RX8 26 RX8 yX8_isSyncWord wsX8_isSyncWord) := goodIn_app (goodIn_of _ (by decide +kernel)) ggX8_check_X8_isSyncWord
theorem dX8_check_0 : decode cX8_check 0 = .ok (.aload_n 0, 1) := by decide +kernel
theorem dX8_check_1 : decode cX8_check 1 = .ok (.invokevirtual 26, 3) := by decide +kernel
theorem dX8_check_4 : decode cX8_check 4 = .ok (.ifCond .ne 9, 3) := by decide +kernel
theorem dX8_check_7 : decode cX8_check 7 = .ok (.aload_n 0, 1) := by decide +kernel
theorem dX8_check_8 : decode cX8_check 8 = .ok (.iconst 0, 1) := by decide +kernel
theorem dX8_check_9 : decode cX8_check 9 = .ok (.putfield 9, 3) := by decide +kernel
theorem dX8_check_12 : decode cX8_check 12 = .ok (.return_, 1) := by decide +kernel
theorem dX8_check_13 : decode cX8_check 13 = .ok (.aload_n 0, 1) := by decide +kernel
theorem dX8_check_14 : decode cX8_check 14 = .ok (.dup, 1) := by decide +kernel
theorem dX8_check_15 : decode cX8_check 15 = .ok (.getfield 43, 3) := by decide +kernel
theorem dX8_check_18 : decode cX8_check 18 = .ok (.iconst 1, 1) := by decide +kernel
theorem dX8_check_19 : decode cX8_check 19 = .ok (.iadd, 1) := by decide +kernel
theorem dX8_check_20 : decode cX8_check 20 = .ok (.putfield 43, 3) := by decide +kernel
theorem dX8_check_23 : decode cX8_check 23 = .ok (.aload_n 0, 1) := by decide +kernel
theorem dX8_check_24 : decode cX8_check 24 = .ok (.getfield 43, 3) := by decide +kernel
theorem dX8_check_27 : decode cX8_check 27 = .ok (.iconst 3, 1) := by decide +kernel
theorem dX8_check_28 : decode cX8_check 28 = .ok (.if_icmp .ne 13, 3) := by decide +kernel
theorem dX8_check_31 : decode cX8_check 31 = .ok (.aload_n 0, 1) := by decide +kernel
theorem dX8_check_32 : decode cX8_check 32 = .ok (.iconst 2, 1) := by decide +kernel
theorem dX8_check_33 : decode cX8_check 33 = .ok (.putfield 9, 3) := by decide +kernel
theorem dX8_check_36 : decode cX8_check 36 = .ok (.aload_n 0, 1) := by decide +kernel
theorem dX8_check_37 : decode cX8_check 37 = .ok (.iconst 0, 1) := by decide +kernel
theorem dX8_check_38 : decode cX8_check 38 = .ok (.putfield 52, 3) := by decide +kernel
theorem dX8_check_41 : decode cX8_check 41 = .ok (.return_, 1) := by decide +kernel
set_option maxRecDepth 20000 in
theorem ggX8_keepLock_X8_latestWord : GoodIn wsX8_keepLock wsX8_latestWord := goodIn_r _ [7, 8, 16, 17, 18, 19, 20, 21, 22] (by decide +kernel) (by decide +kernel)
set_option maxRecDepth 20000 in
theorem gX8_keepLock_X8_latestWord : GoodIn wsX8_keepLock (wsV RX8 39 RX8 yX8_latestWord wsX8_latestWord) := goodIn_app (goodIn_of _ (by decide +kernel)) ggX8_keepLock_X8_latestWord
set_option maxRecDepth 20000 in
theorem ggX8_keepLock_J6_bitCount_0f7a4 : GoodIn wsX8_keepLock wsJ6_bitCount_0f7a4 := goodIn_r _ [12, 13, 14, 15] (by decide +kernel) (by decide +kernel)
set_option maxRecDepth 20000 in
theorem gX8_keepLock_J6_bitCount_0f7a4 : GoodIn wsX8_keepLock (va_wsS RX8 55 yJ6_bitCount_0f7a4 wsJ6_bitCount_0f7a4) := goodIn_app (goodIn_of _ (by decide +kernel)) ggX8_keepLock_J6_bitCount_0f7a4
theorem dX8_keepLock_0 : decode cX8_keepLock 0 = .ok (.aload_n 0, 1) := by decide +kernel
theorem dX8_keepLock_1 : decode cX8_keepLock 1 = .ok (.invokevirtual 39, 3) := by decide +kernel
theorem dX8_keepLock_4 : decode cX8_keepLock 4 = .ok (.sipush 184, 3) := by decide +kernel
theorem dX8_keepLock_7 : decode cX8_keepLock 7 = .ok (.ixor, 1) := by decide +kernel
theorem dX8_keepLock_8 : decode cX8_keepLock 8 = .ok (.invokestatic 55, 3) := by decide +kernel
theorem dX8_keepLock_11 : decode cX8_keepLock 11 = .ok (.iconst 1, 1) := by decide +kernel
theorem dX8_keepLock_12 : decode cX8_keepLock 12 = .ok (.if_icmp .gt 9, 3) := by decide +kernel
theorem dX8_keepLock_15 : decode cX8_keepLock 15 = .ok (.aload_n 0, 1) := by decide +kernel
theorem dX8_keepLock_16 : decode cX8_keepLock 16 = .ok (.iconst 0, 1) := by decide +kernel
theorem dX8_keepLock_17 : decode cX8_keepLock 17 = .ok (.putfield 52, 3) := by decide +kernel
theorem dX8_keepLock_20 : decode cX8_keepLock 20 = .ok (.return_, 1) := by decide +kernel
theorem dX8_keepLock_21 : decode cX8_keepLock 21 = .ok (.aload_n 0, 1) := by decide +kernel
theorem dX8_keepLock_22 : decode cX8_keepLock 22 = .ok (.dup, 1) := by decide +kernel
theorem dX8_keepLock_23 : decode cX8_keepLock 23 = .ok (.getfield 52, 3) := by decide +kernel
theorem dX8_keepLock_26 : decode cX8_keepLock 26 = .ok (.iconst 1, 1) := by decide +kernel
theorem dX8_keepLock_27 : decode cX8_keepLock 27 = .ok (.iadd, 1) := by decide +kernel
theorem dX8_keepLock_28 : decode cX8_keepLock 28 = .ok (.putfield 52, 3) := by decide +kernel
theorem dX8_keepLock_31 : decode cX8_keepLock 31 = .ok (.aload_n 0, 1) := by decide +kernel
theorem dX8_keepLock_32 : decode cX8_keepLock 32 = .ok (.getfield 52, 3) := by decide +kernel
theorem dX8_keepLock_35 : decode cX8_keepLock 35 = .ok (.iconst 2, 1) := by decide +kernel
theorem dX8_keepLock_36 : decode cX8_keepLock 36 = .ok (.if_icmp .ne 8, 3) := by decide +kernel
theorem dX8_keepLock_39 : decode cX8_keepLock 39 = .ok (.aload_n 0, 1) := by decide +kernel
theorem dX8_keepLock_40 : decode cX8_keepLock 40 = .ok (.iconst 0, 1) := by decide +kernel
theorem dX8_keepLock_41 : decode cX8_keepLock 41 = .ok (.putfield 9, 3) := by decide +kernel
theorem dX8_keepLock_44 : decode cX8_keepLock 44 = .ok (.return_, 1) := by decide +kernel
set_option maxRecDepth 20000 in
theorem ggX9_init_X5_init : GoodIn wsX9_init wsX5_init := goodIn_r _ [29, 30, 2, 3, 31, 32, 33, 34, 69, 70, 71] (by decide +kernel) (by decide +kernel)
set_option maxRecDepth 20000 in
theorem gX9_init_X5_init_n9 : GoodIn wsX9_init (wsX5_init) := ggX9_init_X5_init
set_option maxRecDepth 20000 in
theorem ggX9_init_X3_init : GoodIn wsX9_init wsX3_init := goodIn_r _ [36, 37, 2, 3, 38, 39, 78, 79, 80] (by decide +kernel) (by decide +kernel)
set_option maxRecDepth 20000 in
theorem gX9_init_X3_init_n18 : GoodIn wsX9_init (wsX3_init) := ggX9_init_X3_init
set_option maxRecDepth 20000 in
theorem ggX9_init_X7_init : GoodIn wsX9_init wsX7_init := goodIn_r _ [41, 42, 2, 3] (by decide +kernel) (by decide +kernel)
set_option maxRecDepth 20000 in
theorem gX9_init_X7_init_n25 : GoodIn wsX9_init (wsX7_init) := ggX9_init_X7_init
set_option maxRecDepth 20000 in
theorem ggX9_init_X8_init : GoodIn wsX9_init wsX8_init := goodIn_r _ [44, 45, 2, 3, 46, 38, 47, 83, 84, 85, 86, 87, 88, 89] (by decide +kernel) (by decide +kernel)
set_option maxRecDepth 20000 in
theorem gX9_init_X8_init_n32 : GoodIn wsX9_init (wsX8_init) := ggX9_init_X8_init
set_option maxRecDepth 20000 in
theorem ggX9_init_X0_init : GoodIn wsX9_init wsX0_init := goodIn_r _ [49, 50, 2, 3] (by decide +kernel) (by decide +kernel)
set_option maxRecDepth 20000 in
theorem gX9_init_X0_init_n39 : GoodIn wsX9_init (wsX0_init) := ggX9_init_X0_init
set_option maxRecDepth 20000 in
theorem ggX9_init_X2_init : GoodIn wsX9_init wsX2_init := goodIn_r _ [53, 54, 2, 3, 55, 56, 57, 58, 59, 60, 61, 62, 63, 64, 65, 66, 67, 68, 95, 96, 97, 98, 99, 100, 101, 102, 103] (by decide +kernel) (by decide +kernel)
set_option maxRecDepth 20000 in
theorem gX9_init_X2_init : GoodIn wsX9_init (wsX2_init) := ggX9_init_X2_init
theorem dX9_init_0 : decode cX9_init 0 = .ok (.aload_n 0, 1) := by decide +kernel
theorem dX9_init_1 : decode cX9_init 1 = .ok (.invokespecial 1, 3) := by decide +kernel
theorem dX9_init_4 : decode cX9_init 4 = .ok (.aload_n 0, 1) := by decide +kernel
theorem dX9_init_5 : decode cX9_init 5 = .ok (.new 7, 3) := by decide +kernel
theorem dX9_init_8 : decode cX9_init 8 = .ok (.dup, 1) := by decide +kernel
theorem dX9_init_9 : decode cX9_init 9 = .ok (.invokespecial 9, 3) := by decide +kernel
theorem dX9_init_12 : decode cX9_init 12 = .ok (.putfield 10, 3) := by decide +kernel
theorem dX9_init_15 : decode cX9_init 15 = .ok (.aload_n 0, 1) := by decide +kernel
theorem dX9_init_16 : decode cX9_init 16 = .ok (.new 16, 3) := by decide +kernel
theorem dX9_init_19 : decode cX9_init 19 = .ok (.dup, 1) := by decide +kernel
theorem dX9_init_20 : decode cX9_init 20 = .ok (.invokespecial 18, 3) := by decide +kernel
theorem dX9_init_23 : decode cX9_init 23 = .ok (.putfield 19, 3) := by decide +kernel
theorem dX9_init_26 : decode cX9_init 26 = .ok (.aload_n 0, 1) := by decide +kernel
theorem dX9_init_27 : decode cX9_init 27 = .ok (.new 23, 3) := by decide +kernel
theorem dX9_init_30 : decode cX9_init 30 = .ok (.dup, 1) := by decide +kernel
theorem dX9_init_31 : decode cX9_init 31 = .ok (.invokespecial 25, 3) := by decide +kernel
theorem dX9_init_34 : decode cX9_init 34 = .ok (.putfield 26, 3) := by decide +kernel
theorem dX9_init_37 : decode cX9_init 37 = .ok (.aload_n 0, 1) := by decide +kernel
theorem dX9_init_38 : decode cX9_init 38 = .ok (.new 30, 3) := by decide +kernel
theorem dX9_init_41 : decode cX9_init 41 = .ok (.dup, 1) := by decide +kernel
theorem dX9_init_42 : decode cX9_init 42 = .ok (.invokespecial 32, 3) := by decide +kernel
theorem dX9_init_45 : decode cX9_init 45 = .ok (.putfield 33, 3) := by decide +kernel
theorem dX9_init_48 : decode cX9_init 48 = .ok (.aload_n 0, 1) := by decide +kernel
theorem dX9_init_49 : decode cX9_init 49 = .ok (.new 37, 3) := by decide +kernel
theorem dX9_init_52 : decode cX9_init 52 = .ok (.dup, 1) := by decide +kernel
theorem dX9_init_53 : decode cX9_init 53 = .ok (.invokespecial 39, 3) := by decide +kernel
theorem dX9_init_56 : decode cX9_init 56 = .ok (.putfield 40, 3) := by decide +kernel
theorem dX9_init_59 : decode cX9_init 59 = .ok (.aload_n 0, 1) := by decide +kernel
theorem dX9_init_60 : decode cX9_init 60 = .ok (.new 44, 3) := by decide +kernel
theorem dX9_init_63 : decode cX9_init 63 = .ok (.dup, 1) := by decide +kernel
theorem dX9_init_64 : decode cX9_init 64 = .ok (.invokespecial 46, 3) := by decide +kernel
theorem dX9_init_67 : decode cX9_init 67 = .ok (.putfield 47, 3) := by decide +kernel
theorem dX9_init_70 : decode cX9_init 70 = .ok (.return_, 1) := by decide +kernel
set_option maxRecDepth 20000 in
theorem ggX9_addPoint_X9_isPointAllowed : GoodIn wsX9_addPoint wsX9_isPointAllowed := goodIn_r _ [10] (by decide +kernel) (by decide +kernel)
set_option maxRecDepth 20000 in
theorem gX9_addPoint_X9_isPointAllowed : GoodIn wsX9_addPoint (va_wsS RX9 51 yX9_isPointAllowed wsX9_isPointAllowed) := goodIn_app (goodIn_of _ (by decide +kernel)) ggX9_addPoint_X9_isPointAllowed
set_option maxRecDepth 20000 in
theorem ggX9_addPoint_X5_add : GoodIn wsX9_addPoint wsX5_add := goodIn_r _ [15, 16, 17, 18, 19, 20, 21, 22, 14, 23, 24, 25, 26, 27, 28, 29, 30, 31, 32, 33, 34, 35, 36, 37, 38, 39, 40, 41, 42, 43, 44, 45, 46, 47, 48, 49, 50, 51, 60, 61, 62, 63, 64, 65, 66, 67, 68, 69, 70, 71, 72, 73, 74, 75] (by decide +kernel) (by decide +kernel)
set_option maxRecDepth 20000 in
theorem gX9_addPoint_X5_add : GoodIn wsX9_addPoint (wsV RX9 62 RX5 yX5_add wsX5_add) := goodIn_app (goodIn_of _ (by decide +kernel)) ggX9_addPoint_X5_add
theorem dX9_addPoint_0 : decode cX9_addPoint 0 = .ok (.iload_n 1, 1) := by decide +kernel
theorem dX9_addPoint_1 : decode cX9_addPoint 1 = .ok (.iload_n 2, 1) := by decide +kernel
theorem dX9_addPoint_2 : decode cX9_addPoint 2 = .ok (.iload_n 3, 1) := by decide +kernel
theorem dX9_addPoint_3 : decode cX9_addPoint 3 = .ok (.iload 4, 2) := by decide +kernel
theorem dX9_addPoint_5 : decode cX9_addPoint 5 = .ok (.invokestatic 51, 3) := by decide +kernel
theorem dX9_addPoint_8 : decode cX9_addPoint 8 = .ok (.ifCond .ne 11, 3) := by decide +kernel
theorem dX9_addPoint_11 : decode cX9_addPoint 11 = .ok (.new 55, 3) := by decide +kernel
theorem dX9_addPoint_14 : decode cX9_addPoint 14 = .ok (.dup, 1) := by decide +kernel
theorem dX9_addPoint_15 : decode cX9_addPoint 15 = .ok (.invokespecial 57, 3) := by decide +kernel
theorem dX9_addPoint_18 : decode cX9_addPoint 18 = .ok (.athrow, 1) := by decide +kernel
theorem dX9_addPoint_19 : decode cX9_addPoint 19 = .ok (.aload_n 0, 1) := by decide +kernel
theorem dX9_addPoint_20 : decode cX9_addPoint 20 = .ok (.getfield 26, 3) := by decide +kernel
theorem dX9_addPoint_23 : decode cX9_addPoint 23 = .ok (.getfield 58, 3) := by decide +kernel
theorem dX9_addPoint_26 : decode cX9_addPoint 26 = .ok (.ifCond .gt 18, 3) := by decide +kernel
theorem dX9_addPoint_29 : decode cX9_addPoint 29 = .ok (.aload_n 0, 1) := by decide +kernel
theorem dX9_addPoint_30 : decode cX9_addPoint 30 = .ok (.getfield 10, 3) := by decide +kernel
theorem dX9_addPoint_33 : decode cX9_addPoint 33 = .ok (.iload_n 1, 1) := by decide +kernel
theorem dX9_addPoint_34 : decode cX9_addPoint 34 = .ok (.iload_n 2, 1) := by decide +kernel
theorem dX9_addPoint_35 : decode cX9_addPoint 35 = .ok (.iload_n 3, 1) := by decide +kernel
theorem dX9_addPoint_36 : decode cX9_addPoint 36 = .ok (.iload 4, 2) := by decide +kernel
theorem dX9_addPoint_38 : decode cX9_addPoint 38 = .ok (.invokevirtual 62, 3) := by decide +kernel
theorem dX9_addPoint_41 : decode cX9_addPoint 41 = .ok (.ifCond .ne 11, 3) := by decide +kernel
theorem dX9_addPoint_44 : decode cX9_addPoint 44 = .ok (.new 65, 3) := by decide +kernel
theorem dX9_addPoint_47 : decode cX9_addPoint 47 = .ok (.dup, 1) := by decide +kernel
theorem dX9_addPoint_48 : decode cX9_addPoint 48 = .ok (.invokespecial 67, 3) := by decide +kernel
theorem dX9_addPoint_51 : decode cX9_addPoint 51 = .ok (.athrow, 1) := by decide +kernel
theorem dX9_addPoint_52 : decode cX9_addPoint 52 = .ok (.aload_n 0, 1) := by decide +kernel
theorem dX9_addPoint_53 : decode cX9_addPoint 53 = .ok (.getfield 10, 3) := by decide +kernel
theorem dX9_addPoint_56 : decode cX9_addPoint 56 = .ok (.getfield 68, 3) := by decide +kernel
theorem dX9_addPoint_59 : decode cX9_addPoint 59 = .ok (.iconst 1, 1) := by decide +kernel
theorem dX9_addPoint_60 : decode cX9_addPoint 60 = .ok (.isub, 1) := by decide +kernel
theorem dX9_addPoint_61 : decode cX9_addPoint 61 = .ok (.ireturn, 1) := by decide +kernel
theorem dX9_points_0 : decode cX9_points 0 = .ok (.aload_n 0, 1) := by decide +kernel
theorem dX9_points_1 : decode cX9_points 1 = .ok (.getfield 10, 3) := by decide +kernel
theorem dX9_points_4 : decode cX9_points 4 = .ok (.getfield 68, 3) := by decide +kernel
theorem dX9_points_7 : decode cX9_points 7 = .ok (.ireturn, 1) := by decide +kernel
set_option maxRecDepth 20000 in
theorem ggX9_place_X9_existingPoint : GoodIn wsX9_place wsX9_existingPoint := goodIn_ca (goodIn_r _ [5, 6, 7, 8, 9, 10, 11, 12, 13, 14, 15, 26, 27, 28, 29, 30, 31, 32, 33, 34] (by decide +kernel) (by decide +kernel)) (goodIn_sub (fun _ h => List.mem_cons_of_mem _ (List.mem_append_right _ h)) (by decide +kernel))
set_option maxRecDepth 20000 in
theorem gX9_place_X9_existingPoint : GoodIn wsX9_place (wsV RX9 71 RX9 yX9_existingPoint wsX9_existingPoint) := goodIn_app (goodIn_of _ (by decide +kernel)) ggX9_place_X9_existingPoint
theorem dX9_place_0 : decode cX9_place 0 = .ok (.aload_n 0, 1) := by decide +kernel
theorem dX9_place_1 : decode cX9_place 1 = .ok (.iload_n 1, 1) := by decide +kernel
theorem dX9_place_2 : decode cX9_place 2 = .ok (.invokevirtual 71, 3) := by decide +kernel
theorem dX9_place_5 : decode cX9_place 5 = .ok (.astore_n 2, 1) := by decide +kernel
theorem dX9_place_6 : decode cX9_place 6 = .ok (.bipush 100, 2) := by decide +kernel
theorem dX9_place_8 : decode cX9_place 8 = .ok (.aload_n 2, 1) := by decide +kernel
theorem dX9_place_9 : decode cX9_place 9 = .ok (.getfield 75, 3) := by decide +kernel
theorem dX9_place_12 : decode cX9_place 12 = .ok (.imul, 1) := by decide +kernel
theorem dX9_place_13 : decode cX9_place 13 = .ok (.aload_n 2, 1) := by decide +kernel
theorem dX9_place_14 : decode cX9_place 14 = .ok (.getfield 80, 3) := by decide +kernel
theorem dX9_place_17 : decode cX9_place 17 = .ok (.iadd, 1) := by decide +kernel
theorem dX9_place_18 : decode cX9_place 18 = .ok (.ireturn, 1) := by decide +kernel
set_option maxRecDepth 20000 in
theorem ggX9_spare_X5_spareBits : GoodIn wsX9_spare wsX5_spareBits := goodIn_r _ [6, 7, 8, 9, 10, 11, 12, 13, 14, 21, 22, 23] (by decide +kernel) (by decide +kernel)
set_option maxRecDepth 20000 in
theorem gX9_spare_X5_spareBits : GoodIn wsX9_spare (wsV RX9 83 RX5 yX5_spareBits wsX5_spareBits) := goodIn_app (goodIn_of _ (by decide +kernel)) ggX9_spare_X5_spareBits
theorem dX9_spare_0 : decode cX9_spare 0 = .ok (.aload_n 0, 1) := by decide +kernel
theorem dX9_spare_1 : decode cX9_spare 1 = .ok (.getfield 10, 3) := by decide +kernel
theorem dX9_spare_4 : decode cX9_spare 4 = .ok (.invokevirtual 83, 3) := by decide +kernel
theorem dX9_spare_7 : decode cX9_spare 7 = .ok (.ireturn, 1) := by decide +kernel
set_option maxRecDepth 20000 in
theorem ggX9_put_X9_existingPoint : GoodIn wsX9_put wsX9_existingPoint := goodIn_ca (goodIn_r _ [7, 8, 9, 10, 11, 12, 13, 14, 15, 16, 17, 43, 44, 45, 46, 47, 48, 49, 50, 51] (by decide +kernel) (by decide +kernel)) (goodIn_sub (fun _ h => List.mem_cons_of_mem _ (List.mem_append_right _ h)) (by decide +kernel))
set_option maxRecDepth 20000 in
theorem gX9_put_X9_existingPoint : GoodIn wsX9_put (wsV RX9 71 RX9 yX9_existingPoint wsX9_existingPoint) := goodIn_app (goodIn_of _ (by decide +kernel)) ggX9_put_X9_existingPoint
set_option maxRecDepth 20000 in
theorem ggX9_put_X4_lowest : GoodIn wsX9_put wsX4_lowest := goodIn_r _ [22, 23, 24, 25, 26, 21, 27, 28, 33, 34, 35, 36, 37, 38, 39, 40, 41, 42] (by decide +kernel) (by decide +kernel)
set_option maxRecDepth 20000 in
theorem gX9_put_X4_lowest : GoodIn wsX9_put (wsV RX9 87 RX4 yX4_lowest wsX4_lowest) := goodIn_app (goodIn_of _ (by decide +kernel)) ggX9_put_X4_lowest
set_option maxRecDepth 20000 in
theorem ggX9_put_X4_highest : GoodIn wsX9_put wsX4_highest := goodIn_r _ [32, 23, 28, 24, 25, 26, 21, 27, 33, 34, 35, 36, 37, 38, 39, 40, 41, 42] (by decide +kernel) (by decide +kernel)
set_option maxRecDepth 20000 in
theorem gX9_put_X4_highest : GoodIn wsX9_put (wsV RX9 90 RX4 yX4_highest wsX4_highest) := goodIn_app (goodIn_of _ (by decide +kernel)) ggX9_put_X4_highest
theorem dX9_put_0 : decode cX9_put 0 = .ok (.aload_n 0, 1) := by decide +kernel
theorem dX9_put_1 : decode cX9_put 1 = .ok (.iload_n 1, 1) := by decide +kernel
theorem dX9_put_2 : decode cX9_put 2 = .ok (.invokevirtual 71, 3) := by decide +kernel
theorem dX9_put_5 : decode cX9_put 5 = .ok (.astore_n 3, 1) := by decide +kernel
theorem dX9_put_6 : decode cX9_put 6 = .ok (.iload_n 2, 1) := by decide +kernel
theorem dX9_put_7 : decode cX9_put 7 = .ok (.aload_n 3, 1) := by decide +kernel
theorem dX9_put_8 : decode cX9_put 8 = .ok (.invokevirtual 87, 3) := by decide +kernel
theorem dX9_put_11 : decode cX9_put 11 = .ok (.if_icmp .lt 11, 3) := by decide +kernel
theorem dX9_put_14 : decode cX9_put 14 = .ok (.iload_n 2, 1) := by decide +kernel
theorem dX9_put_15 : decode cX9_put 15 = .ok (.aload_n 3, 1) := by decide +kernel
theorem dX9_put_16 : decode cX9_put 16 = .ok (.invokevirtual 90, 3) := by decide +kernel
theorem dX9_put_19 : decode cX9_put 19 = .ok (.if_icmp .le 11, 3) := by decide +kernel
theorem dX9_put_22 : decode cX9_put 22 = .ok (.new 55, 3) := by decide +kernel
theorem dX9_put_25 : decode cX9_put 25 = .ok (.dup, 1) := by decide +kernel
theorem dX9_put_26 : decode cX9_put 26 = .ok (.invokespecial 57, 3) := by decide +kernel
theorem dX9_put_29 : decode cX9_put 29 = .ok (.athrow, 1) := by decide +kernel
theorem dX9_put_30 : decode cX9_put 30 = .ok (.aload_n 3, 1) := by decide +kernel
theorem dX9_put_31 : decode cX9_put 31 = .ok (.getfield 93, 3) := by decide +kernel
theorem dX9_put_34 : decode cX9_put 34 = .ok (.istore 4, 2) := by decide +kernel
theorem dX9_put_36 : decode cX9_put 36 = .ok (.aload_n 3, 1) := by decide +kernel
theorem dX9_put_37 : decode cX9_put 37 = .ok (.iload_n 2, 1) := by decide +kernel
theorem dX9_put_38 : decode cX9_put 38 = .ok (.putfield 93, 3) := by decide +kernel
theorem dX9_put_41 : decode cX9_put 41 = .ok (.iload 4, 2) := by decide +kernel
theorem dX9_put_43 : decode cX9_put 43 = .ok (.ireturn, 1) := by decide +kernel
set_option maxRecDepth 20000 in
theorem ggX9_send_X7_sendWord : GoodIn wsX9_send wsX7_sendWord := goodIn_r _ [12, 13, 14, 15, 16, 17, 18, 11, 19, 20, 21, 22, 23, 24, 25, 26, 27, 28, 29, 30, 31, 32, 33, 34, 35, 36, 37, 38, 39, 40, 41, 42, 43, 44, 45, 46, 47, 48, 49, 50, 51, 52, 53, 54, 55, 56, 57, 58, 59, 60, 61, 62, 63, 64, 65, 77, 78, 79, 80, 81, 82, 83, 84, 85, 86, 87, 88, 89, 90, 91, 92, 93, 94] (by decide +kernel) (by decide +kernel)
set_option maxRecDepth 20000 in
theorem gX9_send_X7_sendWord : GoodIn wsX9_send (wsV RX9 96 RX7 yX7_sendWord wsX7_sendWord) := goodIn_app (goodIn_of _ (by decide +kernel)) ggX9_send_X7_sendWord
set_option maxRecDepth 20000 in
theorem ggX9_send_X3_length : GoodIn wsX9_send wsX3_length := goodIn_r _ [69, 64, 70, 92, 93, 94] (by decide +kernel) (by decide +kernel)
set_option maxRecDepth 20000 in
theorem gX9_send_X3_length : GoodIn wsX9_send (wsV RX9 100 RX3 yX3_length wsX3_length) := goodIn_app (goodIn_of _ (by decide +kernel)) ggX9_send_X3_length
theorem dX9_send_0 : decode cX9_send 0 = .ok (.iload_n 1, 1) := by decide +kernel
theorem dX9_send_1 : decode cX9_send 1 = .ok (.iconst 1, 1) := by decide +kernel
theorem dX9_send_2 : decode cX9_send 2 = .ok (.if_icmp .lt 9, 3) := by decide +kernel
theorem dX9_send_5 : decode cX9_send 5 = .ok (.iload_n 1, 1) := by decide +kernel
theorem dX9_send_6 : decode cX9_send 6 = .ok (.bipush 64, 2) := by decide +kernel
theorem dX9_send_8 : decode cX9_send 8 = .ok (.if_icmp .le 11, 3) := by decide +kernel
theorem dX9_send_11 : decode cX9_send 11 = .ok (.new 55, 3) := by decide +kernel
theorem dX9_send_14 : decode cX9_send 14 = .ok (.dup, 1) := by decide +kernel
theorem dX9_send_15 : decode cX9_send 15 = .ok (.invokespecial 57, 3) := by decide +kernel
theorem dX9_send_18 : decode cX9_send 18 = .ok (.athrow, 1) := by decide +kernel
theorem dX9_send_19 : decode cX9_send 19 = .ok (.aload_n 0, 1) := by decide +kernel
theorem dX9_send_20 : decode cX9_send 20 = .ok (.getfield 26, 3) := by decide +kernel
theorem dX9_send_23 : decode cX9_send 23 = .ok (.getfield 58, 3) := by decide +kernel
theorem dX9_send_26 : decode cX9_send 26 = .ok (.iload_n 1, 1) := by decide +kernel
theorem dX9_send_27 : decode cX9_send 27 = .ok (.iadd, 1) := by decide +kernel
theorem dX9_send_28 : decode cX9_send 28 = .ok (.sipush 1000, 3) := by decide +kernel
theorem dX9_send_31 : decode cX9_send 31 = .ok (.if_icmp .le 11, 3) := by decide +kernel
theorem dX9_send_34 : decode cX9_send 34 = .ok (.new 65, 3) := by decide +kernel
theorem dX9_send_37 : decode cX9_send 37 = .ok (.dup, 1) := by decide +kernel
theorem dX9_send_38 : decode cX9_send 38 = .ok (.invokespecial 67, 3) := by decide +kernel
theorem dX9_send_41 : decode cX9_send 41 = .ok (.athrow, 1) := by decide +kernel
theorem dX9_send_42 : decode cX9_send 42 = .ok (.iconst 0, 1) := by decide +kernel
theorem dX9_send_43 : decode cX9_send 43 = .ok (.istore_n 2, 1) := by decide +kernel
theorem dX9_send_44 : decode cX9_send 44 = .ok (.iload_n 2, 1) := by decide +kernel
theorem dX9_send_45 : decode cX9_send 45 = .ok (.iload_n 1, 1) := by decide +kernel
theorem dX9_send_46 : decode cX9_send 46 = .ok (.if_icmp .ge 24, 3) := by decide +kernel
theorem dX9_send_49 : decode cX9_send 49 = .ok (.aload_n 0, 1) := by decide +kernel
theorem dX9_send_50 : decode cX9_send 50 = .ok (.getfield 26, 3) := by decide +kernel
theorem dX9_send_53 : decode cX9_send 53 = .ok (.aload_n 0, 1) := by decide +kernel
theorem dX9_send_54 : decode cX9_send 54 = .ok (.getfield 10, 3) := by decide +kernel
theorem dX9_send_57 : decode cX9_send 57 = .ok (.aload_n 0, 1) := by decide +kernel
theorem dX9_send_58 : decode cX9_send 58 = .ok (.getfield 19, 3) := by decide +kernel
theorem dX9_send_61 : decode cX9_send 61 = .ok (.invokevirtual 96, 3) := by decide +kernel
theorem dX9_send_64 : decode cX9_send 64 = .ok (.iinc 2 1, 3) := by decide +kernel
theorem dX9_send_67 : decode cX9_send 67 = .ok (.goto (-23), 3) := by decide +kernel
theorem dX9_send_70 : decode cX9_send 70 = .ok (.aload_n 0, 1) := by decide +kernel
theorem dX9_send_71 : decode cX9_send 71 = .ok (.getfield 19, 3) := by decide +kernel
theorem dX9_send_74 : decode cX9_send 74 = .ok (.invokevirtual 100, 3) := by decide +kernel
theorem dX9_send_77 : decode cX9_send 77 = .ok (.ireturn, 1) := by decide +kernel
theorem dX9_sent_0 : decode cX9_sent 0 = .ok (.aload_n 0, 1) := by decide +kernel
theorem dX9_sent_1 : decode cX9_sent 1 = .ok (.getfield 26, 3) := by decide +kernel
theorem dX9_sent_4 : decode cX9_sent 4 = .ok (.getfield 58, 3) := by decide +kernel
theorem dX9_sent_7 : decode cX9_sent 7 = .ok (.ireturn, 1) := by decide +kernel
set_option maxRecDepth 20000 in
theorem ggX9_onLine_X3_length : GoodIn wsX9_onLine wsX3_length := goodIn_r _ [6, 7, 8, 15, 16, 17] (by decide +kernel) (by decide +kernel)
set_option maxRecDepth 20000 in
theorem gX9_onLine_X3_length : GoodIn wsX9_onLine (wsV RX9 100 RX3 yX3_length wsX3_length) := goodIn_app (goodIn_of _ (by decide +kernel)) ggX9_onLine_X3_length
theorem dX9_onLine_0 : decode cX9_onLine 0 = .ok (.aload_n 0, 1) := by decide +kernel
theorem dX9_onLine_1 : decode cX9_onLine 1 = .ok (.getfield 19, 3) := by decide +kernel
theorem dX9_onLine_4 : decode cX9_onLine 4 = .ok (.invokevirtual 100, 3) := by decide +kernel
theorem dX9_onLine_7 : decode cX9_onLine 7 = .ok (.ireturn, 1) := by decide +kernel
set_option maxRecDepth 20000 in
theorem ggX9_bit_X3_holds : GoodIn wsX9_bit wsX3_holds := goodIn_r _ [8, 9, 10, 11, 7, 12, 13, 14, 27, 28, 29] (by decide +kernel) (by decide +kernel)
set_option maxRecDepth 20000 in
theorem gX9_bit_X3_holds : GoodIn wsX9_bit (wsV RX9 103 RX3 yX3_holds wsX3_holds) := goodIn_app (goodIn_of _ (by decide +kernel)) ggX9_bit_X3_holds
set_option maxRecDepth 20000 in
theorem ggX9_bit_X3_look : GoodIn wsX9_bit wsX3_look := goodIn_r _ [18, 19, 14, 20, 5, 6, 7, 8, 9, 10, 11, 12, 13, 27, 28, 29] (by decide +kernel) (by decide +kernel)
set_option maxRecDepth 20000 in
theorem gX9_bit_X3_look : GoodIn wsX9_bit (wsV RX9 110 RX3 yX3_look wsX3_look) := goodIn_app (goodIn_of _ (by decide +kernel)) ggX9_bit_X3_look
theorem dX9_bit_0 : decode cX9_bit 0 = .ok (.aload_n 0, 1) := by decide +kernel
theorem dX9_bit_1 : decode cX9_bit 1 = .ok (.getfield 19, 3) := by decide +kernel
theorem dX9_bit_4 : decode cX9_bit 4 = .ok (.iload_n 1, 1) := by decide +kernel
theorem dX9_bit_5 : decode cX9_bit 5 = .ok (.iconst 1, 1) := by decide +kernel
theorem dX9_bit_6 : decode cX9_bit 6 = .ok (.invokevirtual 103, 3) := by decide +kernel
theorem dX9_bit_9 : decode cX9_bit 9 = .ok (.ifCond .ne 11, 3) := by decide +kernel
theorem dX9_bit_12 : decode cX9_bit 12 = .ok (.new 107, 3) := by decide +kernel
theorem dX9_bit_15 : decode cX9_bit 15 = .ok (.dup, 1) := by decide +kernel
theorem dX9_bit_16 : decode cX9_bit 16 = .ok (.invokespecial 109, 3) := by decide +kernel
theorem dX9_bit_19 : decode cX9_bit 19 = .ok (.athrow, 1) := by decide +kernel
theorem dX9_bit_20 : decode cX9_bit 20 = .ok (.aload_n 0, 1) := by decide +kernel
theorem dX9_bit_21 : decode cX9_bit 21 = .ok (.getfield 19, 3) := by decide +kernel
theorem dX9_bit_24 : decode cX9_bit 24 = .ok (.iload_n 1, 1) := by decide +kernel
theorem dX9_bit_25 : decode cX9_bit 25 = .ok (.invokevirtual 110, 3) := by decide +kernel
theorem dX9_bit_28 : decode cX9_bit 28 = .ok (.ireturn, 1) := by decide +kernel
set_option maxRecDepth 20000 in
theorem ggX9_flip_X3_holds : GoodIn wsX9_flip wsX3_holds := goodIn_r _ [8, 9, 10, 11, 7, 12, 13, 14, 27, 28, 29] (by decide +kernel) (by decide +kernel)
set_option maxRecDepth 20000 in
theorem gX9_flip_X3_holds : GoodIn wsX9_flip (wsV RX9 103 RX3 yX3_holds wsX3_holds) := goodIn_app (goodIn_of _ (by decide +kernel)) ggX9_flip_X3_holds
set_option maxRecDepth 20000 in
theorem ggX9_flip_X3_turnOver : GoodIn wsX9_flip wsX3_turnOver := goodIn_r _ [18, 19, 14, 20, 5, 6, 7, 8, 9, 10, 11, 12, 13, 27, 28, 29] (by decide +kernel) (by decide +kernel)
set_option maxRecDepth 20000 in
theorem gX9_flip_X3_turnOver : GoodIn wsX9_flip (wsV RX9 114 RX3 yX3_turnOver wsX3_turnOver) := goodIn_app (goodIn_of _ (by decide +kernel)) ggX9_flip_X3_turnOver
theorem dX9_flip_0 : decode cX9_flip 0 = .ok (.aload_n 0, 1) := by decide +kernel
theorem dX9_flip_1 : decode cX9_flip 1 = .ok (.getfield 19, 3) := by decide +kernel
theorem dX9_flip_4 : decode cX9_flip 4 = .ok (.iload_n 1, 1) := by decide +kernel
theorem dX9_flip_5 : decode cX9_flip 5 = .ok (.iconst 1, 1) := by decide +kernel
theorem dX9_flip_6 : decode cX9_flip 6 = .ok (.invokevirtual 103, 3) := by decide +kernel
theorem dX9_flip_9 : decode cX9_flip 9 = .ok (.ifCond .ne 11, 3) := by decide +kernel
theorem dX9_flip_12 : decode cX9_flip 12 = .ok (.new 107, 3) := by decide +kernel
theorem dX9_flip_15 : decode cX9_flip 15 = .ok (.dup, 1) := by decide +kernel
theorem dX9_flip_16 : decode cX9_flip 16 = .ok (.invokespecial 109, 3) := by decide +kernel
theorem dX9_flip_19 : decode cX9_flip 19 = .ok (.athrow, 1) := by decide +kernel
theorem dX9_flip_20 : decode cX9_flip 20 = .ok (.aload_n 0, 1) := by decide +kernel
theorem dX9_flip_21 : decode cX9_flip 21 = .ok (.getfield 19, 3) := by decide +kernel
theorem dX9_flip_24 : decode cX9_flip 24 = .ok (.iload_n 1, 1) := by decide +kernel
theorem dX9_flip_25 : decode cX9_flip 25 = .ok (.invokevirtual 114, 3) := by decide +kernel
theorem dX9_flip_28 : decode cX9_flip 28 = .ok (.ireturn, 1) := by decide +kernel
set_option maxRecDepth 20000 in
theorem ggX9_cut_X3_holds : GoodIn wsX9_cut wsX3_holds := goodIn_r _ [10, 11, 12, 13, 9, 14, 15, 16, 34, 35, 36] (by decide +kernel) (by decide +kernel)
set_option maxRecDepth 20000 in
theorem gX9_cut_X3_holds : GoodIn wsX9_cut (wsV RX9 103 RX3 yX3_holds wsX3_holds) := goodIn_app (goodIn_of _ (by decide +kernel)) ggX9_cut_X3_holds
set_option maxRecDepth 20000 in
theorem ggX9_cut_X3_remove : GoodIn wsX9_cut wsX3_remove := goodIn_r _ [20, 16, 21, 15, 22, 23, 24, 25, 26, 7, 8, 9, 10, 11, 12, 13, 14, 34, 35, 36] (by decide +kernel) (by decide +kernel)
set_option maxRecDepth 20000 in
theorem gX9_cut_X3_remove : GoodIn wsX9_cut (wsV RX9 117 RX3 yX3_remove wsX3_remove) := goodIn_app (goodIn_of _ (by decide +kernel)) ggX9_cut_X3_remove
set_option maxRecDepth 20000 in
theorem ggX9_cut_X3_length : GoodIn wsX9_cut wsX3_length := goodIn_r _ [14, 15, 16, 34, 35, 36] (by decide +kernel) (by decide +kernel)
set_option maxRecDepth 20000 in
theorem gX9_cut_X3_length : GoodIn wsX9_cut (wsV RX9 100 RX3 yX3_length wsX3_length) := goodIn_app (goodIn_of _ (by decide +kernel)) ggX9_cut_X3_length
theorem dX9_cut_0 : decode cX9_cut 0 = .ok (.iload_n 2, 1) := by decide +kernel
theorem dX9_cut_1 : decode cX9_cut 1 = .ok (.iconst 1, 1) := by decide +kernel
theorem dX9_cut_2 : decode cX9_cut 2 = .ok (.if_icmp .ge 11, 3) := by decide +kernel
theorem dX9_cut_5 : decode cX9_cut 5 = .ok (.new 55, 3) := by decide +kernel
theorem dX9_cut_8 : decode cX9_cut 8 = .ok (.dup, 1) := by decide +kernel
theorem dX9_cut_9 : decode cX9_cut 9 = .ok (.invokespecial 57, 3) := by decide +kernel
theorem dX9_cut_12 : decode cX9_cut 12 = .ok (.athrow, 1) := by decide +kernel
theorem dX9_cut_13 : decode cX9_cut 13 = .ok (.aload_n 0, 1) := by decide +kernel
theorem dX9_cut_14 : decode cX9_cut 14 = .ok (.getfield 19, 3) := by decide +kernel
theorem dX9_cut_17 : decode cX9_cut 17 = .ok (.iload_n 1, 1) := by decide +kernel
theorem dX9_cut_18 : decode cX9_cut 18 = .ok (.iload_n 2, 1) := by decide +kernel
theorem dX9_cut_19 : decode cX9_cut 19 = .ok (.invokevirtual 103, 3) := by decide +kernel
theorem dX9_cut_22 : decode cX9_cut 22 = .ok (.ifCond .ne 11, 3) := by decide +kernel
theorem dX9_cut_25 : decode cX9_cut 25 = .ok (.new 107, 3) := by decide +kernel
theorem dX9_cut_28 : decode cX9_cut 28 = .ok (.dup, 1) := by decide +kernel
theorem dX9_cut_29 : decode cX9_cut 29 = .ok (.invokespecial 109, 3) := by decide +kernel
theorem dX9_cut_32 : decode cX9_cut 32 = .ok (.athrow, 1) := by decide +kernel
theorem dX9_cut_33 : decode cX9_cut 33 = .ok (.aload_n 0, 1) := by decide +kernel
theorem dX9_cut_34 : decode cX9_cut 34 = .ok (.getfield 19, 3) := by decide +kernel
theorem dX9_cut_37 : decode cX9_cut 37 = .ok (.iload_n 1, 1) := by decide +kernel
theorem dX9_cut_38 : decode cX9_cut 38 = .ok (.iload_n 2, 1) := by decide +kernel
theorem dX9_cut_39 : decode cX9_cut 39 = .ok (.invokevirtual 117, 3) := by decide +kernel
theorem dX9_cut_42 : decode cX9_cut 42 = .ok (.aload_n 0, 1) := by decide +kernel
theorem dX9_cut_43 : decode cX9_cut 43 = .ok (.getfield 19, 3) := by decide +kernel
theorem dX9_cut_46 : decode cX9_cut 46 = .ok (.invokevirtual 100, 3) := by decide +kernel
theorem dX9_cut_49 : decode cX9_cut 49 = .ok (.ireturn, 1) := by decide +kernel
set_option maxRecDepth 20000 in
theorem ggX9_receive_X3_length : GoodIn wsX9_receive wsX3_length := goodIn_r _ [15, 16, 17, 164, 165, 166] (by decide +kernel) (by decide +kernel)
set_option maxRecDepth 20000 in
theorem gX9_receive_X3_length : GoodIn wsX9_receive (wsV RX9 100 RX3 yX3_length wsX3_length) := goodIn_app (goodIn_of _ (by decide +kernel)) ggX9_receive_X3_length
set_option maxRecDepth 20000 in
theorem ggX9_receive_X3_takeFirst : GoodIn wsX9_receive wsX3_takeFirst := goodIn_r _ [21, 22, 17, 23, 24, 25, 14, 26, 27, 12, 13, 15, 16, 164, 165, 166] (by decide +kernel) (by decide +kernel)
set_option maxRecDepth 20000 in
theorem gX9_receive_X3_takeFirst : GoodIn wsX9_receive (wsV RX9 130 RX3 yX3_takeFirst wsX3_takeFirst) := goodIn_app (goodIn_of _ (by decide +kernel)) ggX9_receive_X3_takeFirst
set_option maxRecDepth 20000 in
theorem ggX9_receive_X8_take : GoodIn wsX9_receive wsX8_take := goodIn_r _ [32, 33, 34, 35, 36, 37, 38, 39, 40, 31, 41, 42, 43, 44, 45, 46, 47, 48, 49, 50, 51, 52, 53, 54, 55, 56, 57, 58, 59, 60, 61, 62, 63, 64, 65, 66, 67, 68, 69, 70, 157, 158, 159, 160, 161, 162, 163] (by decide +kernel) (by decide +kernel)
set_option maxRecDepth 20000 in
theorem gX9_receive_X8_take : GoodIn wsX9_receive (wsV RX9 133 RX8 yX8_take wsX8_take) := goodIn_app (goodIn_of _ (by decide +kernel)) ggX9_receive_X8_take
set_option maxRecDepth 20000 in
theorem ggX9_receive_X0_decode : GoodIn wsX9_receive wsX0_decode := goodIn_r _ [75, 76, 77, 78, 79, 80, 81, 82, 74, 83, 84, 85, 86, 87, 88, 89, 90, 91, 92, 93, 94, 95, 96, 97, 98, 99, 100, 101, 102, 103, 104, 105, 106, 107, 108, 109, 110, 111, 112, 113, 114, 115, 116, 117, 118, 119, 120, 121, 122, 123, 124, 125, 126, 127, 128, 129, 130, 131, 132, 133, 134, 135, 136, 137, 138, 139, 140, 141, 142, 143, 144, 145, 152, 153, 154, 155, 156, 167, 168, 169, 170, 171, 172, 173, 174, 175, 176, 177, 178, 179, 180, 181, 182] (by decide +kernel) (by decide +kernel)
set_option maxRecDepth 20000 in
theorem gX9_receive_X0_decode : GoodIn wsX9_receive (wsV RX9 141 RX0 yX0_decode wsX0_decode) := goodIn_app (goodIn_of _ (by decide +kernel)) ggX9_receive_X0_decode
theorem dX9_receive_0 : decode cX9_receive 0 = .ok (.iload_n 1, 1) := by decide +kernel
theorem dX9_receive_1 : decode cX9_receive 1 = .ok (.iconst 1, 1) := by decide +kernel
theorem dX9_receive_2 : decode cX9_receive 2 = .ok (.if_icmp .lt 10, 3) := by decide +kernel
theorem dX9_receive_5 : decode cX9_receive 5 = .ok (.iload_n 1, 1) := by decide +kernel
end
section
theorem dX9_receive_6 : decode cX9_receive 6 = .ok (.sipush 4096, 3) := by decide +kernel
theorem dX9_receive_9 : decode cX9_receive 9 = .ok (.if_icmp .le 11, 3) := by decide +kernel
theorem dX9_receive_12 : decode cX9_receive 12 = .ok (.new 55, 3) := by decide +kernel
theorem dX9_receive_15 : decode cX9_receive 15 = .ok (.dup, 1) := by decide +kernel
theorem dX9_receive_16 : decode cX9_receive 16 = .ok (.invokespecial 57, 3) := by decide +kernel
theorem dX9_receive_19 : decode cX9_receive 19 = .ok (.athrow, 1) := by decide +kernel
theorem dX9_receive_20 : decode cX9_receive 20 = .ok (.aload_n 0, 1) := by decide +kernel
theorem dX9_receive_21 : decode cX9_receive 21 = .ok (.getfield 40, 3) := by decide +kernel
theorem dX9_receive_24 : decode cX9_receive 24 = .ok (.getfield 121, 3) := by decide +kernel
theorem dX9_receive_27 : decode cX9_receive 27 = .ok (.istore_n 2, 1) := by decide +kernel
theorem dX9_receive_28 : decode cX9_receive 28 = .ok (.iload_n 1, 1) := by decide +kernel
theorem dX9_receive_29 : decode cX9_receive 29 = .ok (.aload_n 0, 1) := by decide +kernel
theorem dX9_receive_30 : decode cX9_receive 30 = .ok (.getfield 19, 3) := by decide +kernel
theorem dX9_receive_33 : decode cX9_receive 33 = .ok (.invokevirtual 100, 3) := by decide +kernel
theorem dX9_receive_36 : decode cX9_receive 36 = .ok (.invokestatic 124, 3) := by decide +kernel
theorem dX9_receive_39 : decode cX9_receive 39 = .ok (.istore_n 3, 1) := by decide +kernel
theorem dX9_receive_40 : decode cX9_receive 40 = .ok (.iconst 0, 1) := by decide +kernel
theorem dX9_receive_41 : decode cX9_receive 41 = .ok (.istore 4, 2) := by decide +kernel
theorem dX9_receive_43 : decode cX9_receive 43 = .ok (.iload 4, 2) := by decide +kernel
theorem dX9_receive_45 : decode cX9_receive 45 = .ok (.iload_n 3, 1) := by decide +kernel
theorem dX9_receive_46 : decode cX9_receive 46 = .ok (.if_icmp .ge 44, 3) := by decide +kernel
theorem dX9_receive_49 : decode cX9_receive 49 = .ok (.aload_n 0, 1) := by decide +kernel
theorem dX9_receive_50 : decode cX9_receive 50 = .ok (.getfield 33, 3) := by decide +kernel
theorem dX9_receive_53 : decode cX9_receive 53 = .ok (.aload_n 0, 1) := by decide +kernel
theorem dX9_receive_54 : decode cX9_receive 54 = .ok (.getfield 19, 3) := by decide +kernel
theorem dX9_receive_57 : decode cX9_receive 57 = .ok (.invokevirtual 130, 3) := by decide +kernel
theorem dX9_receive_60 : decode cX9_receive 60 = .ok (.invokevirtual 133, 3) := by decide +kernel
theorem dX9_receive_63 : decode cX9_receive 63 = .ok (.ifCond .eq 21, 3) := by decide +kernel
theorem dX9_receive_66 : decode cX9_receive 66 = .ok (.aload_n 0, 1) := by decide +kernel
theorem dX9_receive_67 : decode cX9_receive 67 = .ok (.getfield 40, 3) := by decide +kernel
theorem dX9_receive_70 : decode cX9_receive 70 = .ok (.aload_n 0, 1) := by decide +kernel
theorem dX9_receive_71 : decode cX9_receive 71 = .ok (.getfield 33, 3) := by decide +kernel
theorem dX9_receive_74 : decode cX9_receive 74 = .ok (.getfield 137, 3) := by decide +kernel
theorem dX9_receive_77 : decode cX9_receive 77 = .ok (.aload_n 0, 1) := by decide +kernel
theorem dX9_receive_78 : decode cX9_receive 78 = .ok (.getfield 10, 3) := by decide +kernel
theorem dX9_receive_81 : decode cX9_receive 81 = .ok (.invokevirtual 141, 3) := by decide +kernel
theorem dX9_receive_84 : decode cX9_receive 84 = .ok (.iinc 4 1, 3) := by decide +kernel
theorem dX9_receive_87 : decode cX9_receive 87 = .ok (.goto (-44), 3) := by decide +kernel
theorem dX9_receive_90 : decode cX9_receive 90 = .ok (.aload_n 0, 1) := by decide +kernel
theorem dX9_receive_91 : decode cX9_receive 91 = .ok (.getfield 40, 3) := by decide +kernel
theorem dX9_receive_94 : decode cX9_receive 94 = .ok (.getfield 121, 3) := by decide +kernel
theorem dX9_receive_97 : decode cX9_receive 97 = .ok (.iload_n 2, 1) := by decide +kernel
theorem dX9_receive_98 : decode cX9_receive 98 = .ok (.isub, 1) := by decide +kernel
theorem dX9_receive_99 : decode cX9_receive 99 = .ok (.ireturn, 1) := by decide +kernel
theorem dX9_state_0 : decode cX9_state 0 = .ok (.aload_n 0, 1) := by decide +kernel
theorem dX9_state_1 : decode cX9_state 1 = .ok (.getfield 33, 3) := by decide +kernel
theorem dX9_state_4 : decode cX9_state 4 = .ok (.getfield 145, 3) := by decide +kernel
theorem dX9_state_7 : decode cX9_state 7 = .ok (.ireturn, 1) := by decide +kernel
theorem dX9_taken_0 : decode cX9_taken 0 = .ok (.aload_n 0, 1) := by decide +kernel
theorem dX9_taken_1 : decode cX9_taken 1 = .ok (.getfield 33, 3) := by decide +kernel
theorem dX9_taken_4 : decode cX9_taken 4 = .ok (.getfield 148, 3) := by decide +kernel
theorem dX9_taken_7 : decode cX9_taken 7 = .ok (.ireturn, 1) := by decide +kernel
theorem dX9_frames_0 : decode cX9_frames 0 = .ok (.aload_n 0, 1) := by decide +kernel
theorem dX9_frames_1 : decode cX9_frames 1 = .ok (.getfield 40, 3) := by decide +kernel
theorem dX9_frames_4 : decode cX9_frames 4 = .ok (.getfield 121, 3) := by decide +kernel
theorem dX9_frames_7 : decode cX9_frames 7 = .ok (.ireturn, 1) := by decide +kernel
theorem dX9_lost_0 : decode cX9_lost 0 = .ok (.aload_n 0, 1) := by decide +kernel
theorem dX9_lost_1 : decode cX9_lost 1 = .ok (.getfield 40, 3) := by decide +kernel
theorem dX9_lost_4 : decode cX9_lost 4 = .ok (.getfield 151, 3) := by decide +kernel
theorem dX9_lost_7 : decode cX9_lost 7 = .ok (.ireturn, 1) := by decide +kernel
theorem dX9_repeats_0 : decode cX9_repeats 0 = .ok (.aload_n 0, 1) := by decide +kernel
theorem dX9_repeats_1 : decode cX9_repeats 1 = .ok (.getfield 40, 3) := by decide +kernel
theorem dX9_repeats_4 : decode cX9_repeats 4 = .ok (.getfield 154, 3) := by decide +kernel
theorem dX9_repeats_7 : decode cX9_repeats 7 = .ok (.ireturn, 1) := by decide +kernel
theorem dX9_number_0 : decode cX9_number 0 = .ok (.aload_n 0, 1) := by decide +kernel
theorem dX9_number_1 : decode cX9_number 1 = .ok (.getfield 40, 3) := by decide +kernel
theorem dX9_number_4 : decode cX9_number 4 = .ok (.getfield 121, 3) := by decide +kernel
theorem dX9_number_7 : decode cX9_number 7 = .ok (.ifCond .ne 11, 3) := by decide +kernel
theorem dX9_number_10 : decode cX9_number 10 = .ok (.new 157, 3) := by decide +kernel
theorem dX9_number_13 : decode cX9_number 13 = .ok (.dup, 1) := by decide +kernel
theorem dX9_number_14 : decode cX9_number 14 = .ok (.invokespecial 159, 3) := by decide +kernel
theorem dX9_number_17 : decode cX9_number 17 = .ok (.athrow, 1) := by decide +kernel
theorem dX9_number_18 : decode cX9_number 18 = .ok (.aload_n 0, 1) := by decide +kernel
theorem dX9_number_19 : decode cX9_number 19 = .ok (.getfield 40, 3) := by decide +kernel
theorem dX9_number_22 : decode cX9_number 22 = .ok (.getfield 160, 3) := by decide +kernel
theorem dX9_number_25 : decode cX9_number 25 = .ok (.ireturn, 1) := by decide +kernel
set_option maxRecDepth 20000 in
theorem ggX9_value_X9_existingPoint : GoodIn wsX9_value wsX9_existingPoint := goodIn_ca (goodIn_r _ [5, 6, 7, 8, 9, 10, 11, 12, 13, 14, 15, 24, 25, 26, 27, 28, 29, 30, 31, 32] (by decide +kernel) (by decide +kernel)) (goodIn_sub (fun _ h => List.mem_cons_of_mem _ (List.mem_append_left _ (List.mem_append_right _ h))) (by decide +kernel))
set_option maxRecDepth 20000 in
theorem gX9_value_X9_existingPoint : GoodIn wsX9_value (wsV RX9 71 RX9 yX9_existingPoint wsX9_existingPoint) := goodIn_app (goodIn_of _ (by decide +kernel)) ggX9_value_X9_existingPoint
set_option maxRecDepth 20000 in
theorem ggX9_value_X9_latestOf : GoodIn wsX9_value wsX9_latestOf := goodIn_ca (goodIn_r _ [18, 19, 20, 33, 34, 35, 36, 37, 38, 39, 40, 41, 42, 21, 22, 23] (by decide +kernel) (by decide +kernel)) (goodIn_sub (fun _ h => List.mem_cons_of_mem _ (List.mem_append_right _ h)) (by decide +kernel))
set_option maxRecDepth 20000 in
theorem gX9_value_X9_latestOf : GoodIn wsX9_value (va_wsS RX9 163 yX9_latestOf wsX9_latestOf) := goodIn_app (goodIn_of _ (by decide +kernel)) ggX9_value_X9_latestOf
theorem dX9_value_0 : decode cX9_value 0 = .ok (.aload_n 0, 1) := by decide +kernel
theorem dX9_value_1 : decode cX9_value 1 = .ok (.iload_n 1, 1) := by decide +kernel
theorem dX9_value_2 : decode cX9_value 2 = .ok (.invokevirtual 71, 3) := by decide +kernel
theorem dX9_value_5 : decode cX9_value 5 = .ok (.invokestatic 163, 3) := by decide +kernel
theorem dX9_value_8 : decode cX9_value 8 = .ok (.getfield 167, 3) := by decide +kernel
theorem dX9_value_11 : decode cX9_value 11 = .ok (.ireturn, 1) := by decide +kernel
set_option maxRecDepth 20000 in
theorem ggX9_time_X9_existingPoint : GoodIn wsX9_time wsX9_existingPoint := goodIn_ca (goodIn_r _ [5, 6, 7, 8, 9, 10, 11, 12, 13, 14, 15, 24, 25, 26, 27, 28, 29, 30, 31, 32] (by decide +kernel) (by decide +kernel)) (goodIn_sub (fun _ h => List.mem_cons_of_mem _ (List.mem_append_left _ (List.mem_append_right _ h))) (by decide +kernel))
set_option maxRecDepth 20000 in
theorem gX9_time_X9_existingPoint : GoodIn wsX9_time (wsV RX9 71 RX9 yX9_existingPoint wsX9_existingPoint) := goodIn_app (goodIn_of _ (by decide +kernel)) ggX9_time_X9_existingPoint
set_option maxRecDepth 20000 in
theorem ggX9_time_X9_latestOf : GoodIn wsX9_time wsX9_latestOf := goodIn_ca (goodIn_r _ [18, 19, 20, 33, 34, 35, 36, 37, 38, 39, 40, 41, 42, 21, 22, 23] (by decide +kernel) (by decide +kernel)) (goodIn_sub (fun _ h => List.mem_cons_of_mem _ (List.mem_append_right _ h)) (by decide +kernel))
set_option maxRecDepth 20000 in
theorem gX9_time_X9_latestOf : GoodIn wsX9_time (va_wsS RX9 163 yX9_latestOf wsX9_latestOf) := goodIn_app (goodIn_of _ (by decide +kernel)) ggX9_time_X9_latestOf
theorem dX9_time_0 : decode cX9_time 0 = .ok (.aload_n 0, 1) := by decide +kernel
theorem dX9_time_1 : decode cX9_time 1 = .ok (.iload_n 1, 1) := by decide +kernel
theorem dX9_time_2 : decode cX9_time 2 = .ok (.invokevirtual 71, 3) := by decide +kernel
theorem dX9_time_5 : decode cX9_time 5 = .ok (.invokestatic 163, 3) := by decide +kernel
theorem dX9_time_8 : decode cX9_time 8 = .ok (.getfield 172, 3) := by decide +kernel
theorem dX9_time_11 : decode cX9_time 11 = .ok (.ireturn, 1) := by decide +kernel
set_option maxRecDepth 20000 in
theorem ggX9_samples_X9_existingPoint : GoodIn wsX9_samples wsX9_existingPoint := goodIn_ca (goodIn_r _ [5, 6, 7, 8, 9, 10, 11, 12, 13, 14, 15, 26, 27, 28, 29, 30, 31, 32, 33, 34] (by decide +kernel) (by decide +kernel)) (goodIn_sub (fun _ h => List.mem_cons_of_mem _ (List.mem_append_right _ h)) (by decide +kernel))
set_option maxRecDepth 20000 in
theorem gX9_samples_X9_existingPoint : GoodIn wsX9_samples (wsV RX9 71 RX9 yX9_existingPoint wsX9_existingPoint) := goodIn_app (goodIn_of _ (by decide +kernel)) ggX9_samples_X9_existingPoint
theorem dX9_samples_0 : decode cX9_samples 0 = .ok (.aload_n 0, 1) := by decide +kernel
theorem dX9_samples_1 : decode cX9_samples 1 = .ok (.iload_n 1, 1) := by decide +kernel
theorem dX9_samples_2 : decode cX9_samples 2 = .ok (.invokevirtual 71, 3) := by decide +kernel
theorem dX9_samples_5 : decode cX9_samples 5 = .ok (.getfield 175, 3) := by decide +kernel
theorem dX9_samples_8 : decode cX9_samples 8 = .ok (.ireturn, 1) := by decide +kernel
set_option maxRecDepth 20000 in
theorem ggX9_missing_X9_existingPoint : GoodIn wsX9_missing wsX9_existingPoint := goodIn_ca (goodIn_r _ [5, 6, 7, 8, 9, 10, 11, 12, 13, 14, 15, 26, 27, 28, 29, 30, 31, 32, 33, 34] (by decide +kernel) (by decide +kernel)) (goodIn_sub (fun _ h => List.mem_cons_of_mem _ (List.mem_append_right _ h)) (by decide +kernel))
set_option maxRecDepth 20000 in
theorem gX9_missing_X9_existingPoint : GoodIn wsX9_missing (wsV RX9 71 RX9 yX9_existingPoint wsX9_existingPoint) := goodIn_app (goodIn_of _ (by decide +kernel)) ggX9_missing_X9_existingPoint
theorem dX9_missing_0 : decode cX9_missing 0 = .ok (.aload_n 0, 1) := by decide +kernel
theorem dX9_missing_1 : decode cX9_missing 1 = .ok (.iload_n 1, 1) := by decide +kernel
theorem dX9_missing_2 : decode cX9_missing 2 = .ok (.invokevirtual 71, 3) := by decide +kernel
theorem dX9_missing_5 : decode cX9_missing 5 = .ok (.getfield 178, 3) := by decide +kernel
theorem dX9_missing_8 : decode cX9_missing 8 = .ok (.ireturn, 1) := by decide +kernel
set_option maxRecDepth 20000 in
theorem ggX9_derive_X9_isDerived : GoodIn wsX9_derive wsX9_isDerived := goodIn_r _ [9] (by decide +kernel) (by decide +kernel)
set_option maxRecDepth 20000 in
theorem gX9_derive_X9_isDerived : GoodIn wsX9_derive (va_wsS RX9 181 yX9_isDerived wsX9_isDerived) := goodIn_app (goodIn_of _ (by decide +kernel)) ggX9_derive_X9_isDerived
set_option maxRecDepth 20000 in
theorem ggX9_derive_X9_isOperand : GoodIn wsX9_derive wsX9_isOperand := goodIn_r _ [12, 6, 7, 8, 9] (by decide +kernel) (by decide +kernel)
set_option maxRecDepth 20000 in
theorem gX9_derive_X9_isOperand : GoodIn wsX9_derive (va_wsS RX9 184 yX9_isOperand wsX9_isOperand) := goodIn_app (goodIn_of _ (by decide +kernel)) ggX9_derive_X9_isOperand
set_option maxRecDepth 20000 in
theorem ggX9_derive_X2_wouldNeedItself : GoodIn wsX9_derive wsX2_wouldNeedItself := goodIn_r _ [17, 18, 19, 20, 16, 21, 22, 23, 24, 25, 40, 41, 42, 43, 44, 45] (by decide +kernel) (by decide +kernel)
set_option maxRecDepth 20000 in
theorem gX9_derive_X2_wouldNeedItself : GoodIn wsX9_derive (wsV RX9 187 RX2 yX2_wouldNeedItself wsX2_wouldNeedItself) := goodIn_app (goodIn_of _ (by decide +kernel)) ggX9_derive_X2_wouldNeedItself
set_option maxRecDepth 20000 in
theorem ggX9_derive_X2_define : GoodIn wsX9_derive wsX2_define := goodIn_r _ [29, 30, 31, 32, 16, 33, 18, 41, 42, 43, 44, 45, 40] (by decide +kernel) (by decide +kernel)
set_option maxRecDepth 20000 in
theorem gX9_derive_X2_define : GoodIn wsX9_derive (wsV RX9 191 RX2 yX2_define wsX2_define) := goodIn_app (goodIn_of _ (by decide +kernel)) ggX9_derive_X2_define
theorem dX9_derive_0 : decode cX9_derive 0 = .ok (.iload_n 1, 1) := by decide +kernel
theorem dX9_derive_1 : decode cX9_derive 1 = .ok (.invokestatic 181, 3) := by decide +kernel
theorem dX9_derive_4 : decode cX9_derive 4 = .ok (.ifCond .eq 27, 3) := by decide +kernel
theorem dX9_derive_7 : decode cX9_derive 7 = .ok (.iload_n 2, 1) := by decide +kernel
theorem dX9_derive_8 : decode cX9_derive 8 = .ok (.ifCond .lt 23, 3) := by decide +kernel
theorem dX9_derive_11 : decode cX9_derive 11 = .ok (.iload_n 2, 1) := by decide +kernel
theorem dX9_derive_12 : decode cX9_derive 12 = .ok (.iconst 4, 1) := by decide +kernel
theorem dX9_derive_13 : decode cX9_derive 13 = .ok (.if_icmp .gt 18, 3) := by decide +kernel
theorem dX9_derive_16 : decode cX9_derive 16 = .ok (.iload_n 3, 1) := by decide +kernel
theorem dX9_derive_17 : decode cX9_derive 17 = .ok (.invokestatic 184, 3) := by decide +kernel
theorem dX9_derive_20 : decode cX9_derive 20 = .ok (.ifCond .eq 11, 3) := by decide +kernel
theorem dX9_derive_23 : decode cX9_derive 23 = .ok (.iload 4, 2) := by decide +kernel
theorem dX9_derive_25 : decode cX9_derive 25 = .ok (.invokestatic 184, 3) := by decide +kernel
theorem dX9_derive_28 : decode cX9_derive 28 = .ok (.ifCond .ne 11, 3) := by decide +kernel
theorem dX9_derive_31 : decode cX9_derive 31 = .ok (.new 55, 3) := by decide +kernel
theorem dX9_derive_34 : decode cX9_derive 34 = .ok (.dup, 1) := by decide +kernel
theorem dX9_derive_35 : decode cX9_derive 35 = .ok (.invokespecial 57, 3) := by decide +kernel
theorem dX9_derive_38 : decode cX9_derive 38 = .ok (.athrow, 1) := by decide +kernel
theorem dX9_derive_39 : decode cX9_derive 39 = .ok (.aload_n 0, 1) := by decide +kernel
theorem dX9_derive_40 : decode cX9_derive 40 = .ok (.getfield 47, 3) := by decide +kernel
theorem dX9_derive_43 : decode cX9_derive 43 = .ok (.iload_n 1, 1) := by decide +kernel
theorem dX9_derive_44 : decode cX9_derive 44 = .ok (.iload_n 3, 1) := by decide +kernel
theorem dX9_derive_45 : decode cX9_derive 45 = .ok (.iload 4, 2) := by decide +kernel
theorem dX9_derive_47 : decode cX9_derive 47 = .ok (.invokevirtual 187, 3) := by decide +kernel
theorem dX9_derive_50 : decode cX9_derive 50 = .ok (.ifCond .eq 11, 3) := by decide +kernel
theorem dX9_derive_53 : decode cX9_derive 53 = .ok (.new 65, 3) := by decide +kernel
theorem dX9_derive_56 : decode cX9_derive 56 = .ok (.dup, 1) := by decide +kernel
theorem dX9_derive_57 : decode cX9_derive 57 = .ok (.invokespecial 67, 3) := by decide +kernel
theorem dX9_derive_60 : decode cX9_derive 60 = .ok (.athrow, 1) := by decide +kernel
theorem dX9_derive_61 : decode cX9_derive 61 = .ok (.aload_n 0, 1) := by decide +kernel
theorem dX9_derive_62 : decode cX9_derive 62 = .ok (.getfield 47, 3) := by decide +kernel
theorem dX9_derive_65 : decode cX9_derive 65 = .ok (.iload_n 1, 1) := by decide +kernel
theorem dX9_derive_66 : decode cX9_derive 66 = .ok (.iload_n 2, 1) := by decide +kernel
theorem dX9_derive_67 : decode cX9_derive 67 = .ok (.iload_n 3, 1) := by decide +kernel
theorem dX9_derive_68 : decode cX9_derive 68 = .ok (.iload 4, 2) := by decide +kernel
theorem dX9_derive_70 : decode cX9_derive 70 = .ok (.invokevirtual 191, 3) := by decide +kernel
theorem dX9_derive_73 : decode cX9_derive 73 = .ok (.return_, 1) := by decide +kernel
set_option maxRecDepth 20000 in
theorem ggX9_derivedValue_X9_resultOf : GoodIn wsX9_derivedValue wsX9_resultOf := goodIn_ca (goodIn_ca (goodIn_r _ [5, 6, 7, 8, 9, 10, 11, 12, 13, 4, 14, 15, 16, 17, 18, 19, 20, 21, 22, 23, 24, 25, 26, 27, 28, 29, 30, 31, 32, 33, 34, 35, 36, 37, 38, 39, 40, 41, 42, 43, 44, 45, 46, 47, 48, 49, 50, 51, 52, 53, 54, 55, 56, 57, 58, 59, 60, 61, 62, 63, 64, 65, 66, 67, 68, 69, 70, 71, 72, 73, 74, 78, 79, 80, 81, 82, 83, 75, 76, 77, 84, 85, 86, 87, 88, 89, 90, 91, 92, 93, 94, 95, 96, 97, 98, 99, 100, 101, 102] (by decide +kernel) (by decide +kernel)) (goodIn_sub (fun _ h => List.mem_cons_of_mem _ (List.mem_append_left _ (List.mem_append_right _ h))) (by decide +kernel))) (goodIn_sub (fun _ h => List.mem_cons_of_mem _ (List.mem_append_right _ h)) (by decide +kernel))
set_option maxRecDepth 20000 in
theorem gX9_derivedValue_X9_resultOf : GoodIn wsX9_derivedValue (wsV RX9 195 RX9 yX9_resultOf wsX9_resultOf) := goodIn_app (goodIn_of _ (by decide +kernel)) ggX9_derivedValue_X9_resultOf
theorem dX9_derivedValue_0 : decode cX9_derivedValue 0 = .ok (.aload_n 0, 1) := by decide +kernel
theorem dX9_derivedValue_1 : decode cX9_derivedValue 1 = .ok (.iload_n 1, 1) := by decide +kernel
theorem dX9_derivedValue_2 : decode cX9_derivedValue 2 = .ok (.invokevirtual 195, 3) := by decide +kernel
theorem dX9_derivedValue_5 : decode cX9_derivedValue 5 = .ok (.getfield 167, 3) := by decide +kernel
theorem dX9_derivedValue_8 : decode cX9_derivedValue 8 = .ok (.ireturn, 1) := by decide +kernel
set_option maxRecDepth 20000 in
theorem ggX9_derivedTime_X9_resultOf : GoodIn wsX9_derivedTime wsX9_resultOf := goodIn_ca (goodIn_ca (goodIn_r _ [5, 6, 7, 8, 9, 10, 11, 12, 13, 4, 14, 15, 16, 17, 18, 19, 20, 21, 22, 23, 24, 25, 26, 27, 28, 29, 30, 31, 32, 33, 34, 35, 36, 37, 38, 39, 40, 41, 42, 43, 44, 45, 46, 47, 48, 49, 50, 51, 52, 53, 54, 55, 56, 57, 58, 59, 60, 61, 62, 63, 64, 65, 66, 67, 68, 69, 70, 71, 72, 73, 74, 78, 79, 80, 81, 82, 83, 75, 76, 77, 84, 85, 86, 87, 88, 89, 90, 91, 92, 93, 94, 95, 96, 97, 98, 99, 100, 101, 102] (by decide +kernel) (by decide +kernel)) (goodIn_sub (fun _ h => List.mem_cons_of_mem _ (List.mem_append_left _ (List.mem_append_right _ h))) (by decide +kernel))) (goodIn_sub (fun _ h => List.mem_cons_of_mem _ (List.mem_append_right _ h)) (by decide +kernel))
set_option maxRecDepth 20000 in
theorem gX9_derivedTime_X9_resultOf : GoodIn wsX9_derivedTime (wsV RX9 195 RX9 yX9_resultOf wsX9_resultOf) := goodIn_app (goodIn_of _ (by decide +kernel)) ggX9_derivedTime_X9_resultOf
theorem dX9_derivedTime_0 : decode cX9_derivedTime 0 = .ok (.aload_n 0, 1) := by decide +kernel
theorem dX9_derivedTime_1 : decode cX9_derivedTime 1 = .ok (.iload_n 1, 1) := by decide +kernel
theorem dX9_derivedTime_2 : decode cX9_derivedTime 2 = .ok (.invokevirtual 195, 3) := by decide +kernel
theorem dX9_derivedTime_5 : decode cX9_derivedTime 5 = .ok (.getfield 172, 3) := by decide +kernel
theorem dX9_derivedTime_8 : decode cX9_derivedTime 8 = .ok (.ireturn, 1) := by decide +kernel
set_option maxRecDepth 20000 in
theorem ggX9_matches_X8_syncWordsAt : GoodIn wsX9_matches wsX8_syncWordsAt := goodIn_r _ [8, 9, 16, 17, 18, 19, 20, 21, 22] (by decide +kernel) (by decide +kernel)
set_option maxRecDepth 20000 in
theorem gX9_matches_X8_syncWordsAt : GoodIn wsX9_matches (wsV RX9 199 RX8 yX8_syncWordsAt wsX8_syncWordsAt) := goodIn_app (goodIn_of _ (by decide +kernel)) ggX9_matches_X8_syncWordsAt
theorem dX9_matches_0 : decode cX9_matches 0 = .ok (.iload_n 1, 1) := by decide +kernel
theorem dX9_matches_1 : decode cX9_matches 1 = .ok (.ifCond .lt 9, 3) := by decide +kernel
theorem dX9_matches_4 : decode cX9_matches 4 = .ok (.iload_n 1, 1) := by decide +kernel
theorem dX9_matches_5 : decode cX9_matches 5 = .ok (.bipush 64, 2) := by decide +kernel
theorem dX9_matches_7 : decode cX9_matches 7 = .ok (.if_icmp .lt 11, 3) := by decide +kernel
theorem dX9_matches_10 : decode cX9_matches 10 = .ok (.new 55, 3) := by decide +kernel
theorem dX9_matches_13 : decode cX9_matches 13 = .ok (.dup, 1) := by decide +kernel
theorem dX9_matches_14 : decode cX9_matches 14 = .ok (.invokespecial 57, 3) := by decide +kernel
theorem dX9_matches_17 : decode cX9_matches 17 = .ok (.athrow, 1) := by decide +kernel
theorem dX9_matches_18 : decode cX9_matches 18 = .ok (.aload_n 0, 1) := by decide +kernel
theorem dX9_matches_19 : decode cX9_matches 19 = .ok (.getfield 33, 3) := by decide +kernel
theorem dX9_matches_22 : decode cX9_matches 22 = .ok (.iload_n 1, 1) := by decide +kernel
theorem dX9_matches_23 : decode cX9_matches 23 = .ok (.invokevirtual 199, 3) := by decide +kernel
theorem dX9_matches_26 : decode cX9_matches 26 = .ok (.ireturn, 1) := by decide +kernel
set_option maxRecDepth 20000 in
theorem ggX9_bestOffset_X8_syncWordsAt : GoodIn wsX9_bestOffset wsX8_syncWordsAt := goodIn_r _ [6, 7, 14, 15, 16, 17, 18, 19, 20] (by decide +kernel) (by decide +kernel)
set_option maxRecDepth 20000 in
theorem gX9_bestOffset_X8_syncWordsAt : GoodIn wsX9_bestOffset (wsV RX9 199 RX8 yX8_syncWordsAt wsX8_syncWordsAt) := goodIn_app (goodIn_of _ (by decide +kernel)) ggX9_bestOffset_X8_syncWordsAt
theorem dX9_bestOffset_0 : decode cX9_bestOffset 0 = .ok (.iconst 0, 1) := by decide +kernel
theorem dX9_bestOffset_1 : decode cX9_bestOffset 1 = .ok (.istore_n 1, 1) := by decide +kernel
theorem dX9_bestOffset_2 : decode cX9_bestOffset 2 = .ok (.iconst 1, 1) := by decide +kernel
theorem dX9_bestOffset_3 : decode cX9_bestOffset 3 = .ok (.istore_n 2, 1) := by decide +kernel
theorem dX9_bestOffset_4 : decode cX9_bestOffset 4 = .ok (.iload_n 2, 1) := by decide +kernel
theorem dX9_bestOffset_5 : decode cX9_bestOffset 5 = .ok (.bipush 64, 2) := by decide +kernel
theorem dX9_bestOffset_7 : decode cX9_bestOffset 7 = .ok (.if_icmp .ge 30, 3) := by decide +kernel
theorem dX9_bestOffset_10 : decode cX9_bestOffset 10 = .ok (.aload_n 0, 1) := by decide +kernel
theorem dX9_bestOffset_11 : decode cX9_bestOffset 11 = .ok (.getfield 33, 3) := by decide +kernel
theorem dX9_bestOffset_14 : decode cX9_bestOffset 14 = .ok (.iload_n 2, 1) := by decide +kernel
theorem dX9_bestOffset_15 : decode cX9_bestOffset 15 = .ok (.invokevirtual 199, 3) := by decide +kernel
theorem dX9_bestOffset_18 : decode cX9_bestOffset 18 = .ok (.aload_n 0, 1) := by decide +kernel
theorem dX9_bestOffset_19 : decode cX9_bestOffset 19 = .ok (.getfield 33, 3) := by decide +kernel
theorem dX9_bestOffset_22 : decode cX9_bestOffset 22 = .ok (.iload_n 1, 1) := by decide +kernel
theorem dX9_bestOffset_23 : decode cX9_bestOffset 23 = .ok (.invokevirtual 199, 3) := by decide +kernel
theorem dX9_bestOffset_26 : decode cX9_bestOffset 26 = .ok (.if_icmp .le 5, 3) := by decide +kernel
theorem dX9_bestOffset_29 : decode cX9_bestOffset 29 = .ok (.iload_n 2, 1) := by decide +kernel
theorem dX9_bestOffset_30 : decode cX9_bestOffset 30 = .ok (.istore_n 1, 1) := by decide +kernel
theorem dX9_bestOffset_31 : decode cX9_bestOffset 31 = .ok (.iinc 2 1, 3) := by decide +kernel
theorem dX9_bestOffset_34 : decode cX9_bestOffset 34 = .ok (.goto (-30), 3) := by decide +kernel
theorem dX9_bestOffset_37 : decode cX9_bestOffset 37 = .ok (.iload_n 1, 1) := by decide +kernel
theorem dX9_bestOffset_38 : decode cX9_bestOffset 38 = .ok (.ireturn, 1) := by decide +kernel
theorem dX9_isPointAllowed_0 : decode cX9_isPointAllowed 0 = .ok (.iload_n 1, 1) := by decide +kernel
theorem dX9_isPointAllowed_1 : decode cX9_isPointAllowed 1 = .ok (.ifCond .lt 8, 3) := by decide +kernel
theorem dX9_isPointAllowed_4 : decode cX9_isPointAllowed 4 = .ok (.iload_n 1, 1) := by decide +kernel
theorem dX9_isPointAllowed_5 : decode cX9_isPointAllowed 5 = .ok (.iconst 3, 1) := by decide +kernel
theorem dX9_isPointAllowed_6 : decode cX9_isPointAllowed 6 = .ok (.if_icmp .le 5, 3) := by decide +kernel
theorem dX9_isPointAllowed_9 : decode cX9_isPointAllowed 9 = .ok (.iconst 0, 1) := by decide +kernel
theorem dX9_isPointAllowed_10 : decode cX9_isPointAllowed 10 = .ok (.ireturn, 1) := by decide +kernel
theorem dX9_isPointAllowed_11 : decode cX9_isPointAllowed 11 = .ok (.iload_n 1, 1) := by decide +kernel
theorem dX9_isPointAllowed_12 : decode cX9_isPointAllowed 12 = .ok (.ifCond .ne 7, 3) := by decide +kernel
theorem dX9_isPointAllowed_15 : decode cX9_isPointAllowed 15 = .ok (.iconst 1, 1) := by decide +kernel
theorem dX9_isPointAllowed_16 : decode cX9_isPointAllowed 16 = .ok (.goto 4, 3) := by decide +kernel
theorem dX9_isPointAllowed_19 : decode cX9_isPointAllowed 19 = .ok (.iconst 2, 1) := by decide +kernel
theorem dX9_isPointAllowed_20 : decode cX9_isPointAllowed 20 = .ok (.istore 4, 2) := by decide +kernel
theorem dX9_isPointAllowed_22 : decode cX9_isPointAllowed 22 = .ok (.iload_n 0, 1) := by decide +kernel
theorem dX9_isPointAllowed_23 : decode cX9_isPointAllowed 23 = .ok (.iload 4, 2) := by decide +kernel
theorem dX9_isPointAllowed_25 : decode cX9_isPointAllowed 25 = .ok (.if_icmp .lt 9, 3) := by decide +kernel
theorem dX9_isPointAllowed_28 : decode cX9_isPointAllowed 28 = .ok (.iload_n 0, 1) := by decide +kernel
theorem dX9_isPointAllowed_29 : decode cX9_isPointAllowed 29 = .ok (.bipush 12, 2) := by decide +kernel
theorem dX9_isPointAllowed_31 : decode cX9_isPointAllowed 31 = .ok (.if_icmp .le 5, 3) := by decide +kernel
theorem dX9_isPointAllowed_34 : decode cX9_isPointAllowed 34 = .ok (.iconst 0, 1) := by decide +kernel
theorem dX9_isPointAllowed_35 : decode cX9_isPointAllowed 35 = .ok (.ireturn, 1) := by decide +kernel
theorem dX9_isPointAllowed_36 : decode cX9_isPointAllowed 36 = .ok (.iload_n 2, 1) := by decide +kernel
theorem dX9_isPointAllowed_37 : decode cX9_isPointAllowed 37 = .ok (.iconst 1, 1) := by decide +kernel
theorem dX9_isPointAllowed_38 : decode cX9_isPointAllowed 38 = .ok (.if_icmp .eq 17, 3) := by decide +kernel
theorem dX9_isPointAllowed_41 : decode cX9_isPointAllowed 41 = .ok (.iload_n 3, 1) := by decide +kernel
theorem dX9_isPointAllowed_42 : decode cX9_isPointAllowed 42 = .ok (.ifCond .ne 17, 3) := by decide +kernel
theorem dX9_isPointAllowed_45 : decode cX9_isPointAllowed 45 = .ok (.iload_n 2, 1) := by decide +kernel
theorem dX9_isPointAllowed_46 : decode cX9_isPointAllowed 46 = .ok (.iconst 2, 1) := by decide +kernel
theorem dX9_isPointAllowed_47 : decode cX9_isPointAllowed 47 = .ok (.if_icmp .eq 8, 3) := by decide +kernel
theorem dX9_isPointAllowed_50 : decode cX9_isPointAllowed 50 = .ok (.iload_n 2, 1) := by decide +kernel
theorem dX9_isPointAllowed_51 : decode cX9_isPointAllowed 51 = .ok (.iconst 4, 1) := by decide +kernel
theorem dX9_isPointAllowed_52 : decode cX9_isPointAllowed 52 = .ok (.if_icmp .ne 7, 3) := by decide +kernel
theorem dX9_isPointAllowed_55 : decode cX9_isPointAllowed 55 = .ok (.iconst 1, 1) := by decide +kernel
theorem dX9_isPointAllowed_56 : decode cX9_isPointAllowed 56 = .ok (.goto 4, 3) := by decide +kernel
theorem dX9_isPointAllowed_59 : decode cX9_isPointAllowed 59 = .ok (.iconst 0, 1) := by decide +kernel
theorem dX9_isPointAllowed_60 : decode cX9_isPointAllowed 60 = .ok (.ireturn, 1) := by decide +kernel
theorem dX9_isDerived_0 : decode cX9_isDerived 0 = .ok (.iload_n 0, 1) := by decide +kernel
theorem dX9_isDerived_1 : decode cX9_isDerived 1 = .ok (.ifCond .lt 13, 3) := by decide +kernel
theorem dX9_isDerived_4 : decode cX9_isDerived 4 = .ok (.iload_n 0, 1) := by decide +kernel
theorem dX9_isDerived_5 : decode cX9_isDerived 5 = .ok (.bipush 8, 2) := by decide +kernel
theorem dX9_isDerived_7 : decode cX9_isDerived 7 = .ok (.if_icmp .ge 7, 3) := by decide +kernel
theorem dX9_isDerived_10 : decode cX9_isDerived 10 = .ok (.iconst 1, 1) := by decide +kernel
theorem dX9_isDerived_11 : decode cX9_isDerived 11 = .ok (.goto 4, 3) := by decide +kernel
theorem dX9_isDerived_14 : decode cX9_isDerived 14 = .ok (.iconst 0, 1) := by decide +kernel
theorem dX9_isDerived_15 : decode cX9_isDerived 15 = .ok (.ireturn, 1) := by decide +kernel
set_option maxRecDepth 20000 in
theorem ggX9_isOperand_X9_isDerived : GoodIn wsX9_isOperand wsX9_isDerived := goodIn_r _ [4] (by decide +kernel) (by decide +kernel)
set_option maxRecDepth 20000 in
theorem gX9_isOperand_X9_isDerived : GoodIn wsX9_isOperand (va_wsS RX9 181 yX9_isDerived wsX9_isDerived) := goodIn_app (goodIn_of _ (by decide +kernel)) ggX9_isOperand_X9_isDerived
theorem dX9_isOperand_0 : decode cX9_isOperand 0 = .ok (.iload_n 0, 1) := by decide +kernel
theorem dX9_isOperand_1 : decode cX9_isOperand 1 = .ok (.ifCond .lt 9, 3) := by decide +kernel
theorem dX9_isOperand_4 : decode cX9_isOperand 4 = .ok (.iload_n 0, 1) := by decide +kernel
theorem dX9_isOperand_5 : decode cX9_isOperand 5 = .ok (.bipush 12, 2) := by decide +kernel
theorem dX9_isOperand_7 : decode cX9_isOperand 7 = .ok (.if_icmp .lt 13, 3) := by decide +kernel
theorem dX9_isOperand_10 : decode cX9_isOperand 10 = .ok (.iload_n 0, 1) := by decide +kernel
theorem dX9_isOperand_11 : decode cX9_isOperand 11 = .ok (.bipush 100, 2) := by decide +kernel
theorem dX9_isOperand_13 : decode cX9_isOperand 13 = .ok (.isub, 1) := by decide +kernel
theorem dX9_isOperand_14 : decode cX9_isOperand 14 = .ok (.invokestatic 181, 3) := by decide +kernel
theorem dX9_isOperand_17 : decode cX9_isOperand 17 = .ok (.ifCond .eq 7, 3) := by decide +kernel
theorem dX9_isOperand_20 : decode cX9_isOperand 20 = .ok (.iconst 1, 1) := by decide +kernel
theorem dX9_isOperand_21 : decode cX9_isOperand 21 = .ok (.goto 4, 3) := by decide +kernel
theorem dX9_isOperand_24 : decode cX9_isOperand 24 = .ok (.iconst 0, 1) := by decide +kernel
theorem dX9_isOperand_25 : decode cX9_isOperand 25 = .ok (.ireturn, 1) := by decide +kernel
set_option maxRecDepth 20000 in
theorem ggX9_existingPoint_X5_at : GoodIn wsX9_existingPoint wsX5_at := goodIn_r _ [8, 9, 10, 17, 18, 19] (by decide +kernel) (by decide +kernel)
set_option maxRecDepth 20000 in
theorem gX9_existingPoint_X5_at : GoodIn wsX9_existingPoint (wsV RX9 202 RX5 yX5_at wsX5_at) := goodIn_app (goodIn_of _ (by decide +kernel)) ggX9_existingPoint_X5_at
theorem dX9_existingPoint_0 : decode cX9_existingPoint 0 = .ok (.aload_n 0, 1) := by decide +kernel
theorem dX9_existingPoint_1 : decode cX9_existingPoint 1 = .ok (.getfield 10, 3) := by decide +kernel
theorem dX9_existingPoint_4 : decode cX9_existingPoint 4 = .ok (.iload_n 1, 1) := by decide +kernel
theorem dX9_existingPoint_5 : decode cX9_existingPoint 5 = .ok (.invokevirtual 202, 3) := by decide +kernel
theorem dX9_existingPoint_8 : decode cX9_existingPoint 8 = .ok (.astore_n 2, 1) := by decide +kernel
theorem dX9_existingPoint_9 : decode cX9_existingPoint 9 = .ok (.aload_n 2, 1) := by decide +kernel
theorem dX9_existingPoint_10 : decode cX9_existingPoint 10 = .ok (.ifnonnull 11, 3) := by decide +kernel
theorem dX9_existingPoint_13 : decode cX9_existingPoint 13 = .ok (.new 107, 3) := by decide +kernel
theorem dX9_existingPoint_16 : decode cX9_existingPoint 16 = .ok (.dup, 1) := by decide +kernel
theorem dX9_existingPoint_17 : decode cX9_existingPoint 17 = .ok (.invokespecial 109, 3) := by decide +kernel
theorem dX9_existingPoint_20 : decode cX9_existingPoint 20 = .ok (.athrow, 1) := by decide +kernel
theorem dX9_existingPoint_21 : decode cX9_existingPoint 21 = .ok (.aload_n 2, 1) := by decide +kernel
theorem dX9_existingPoint_22 : decode cX9_existingPoint 22 = .ok (.areturn, 1) := by decide +kernel
theorem dX9_latestOf_0 : decode cX9_latestOf 0 = .ok (.aload_n 0, 1) := by decide +kernel
theorem dX9_latestOf_1 : decode cX9_latestOf 1 = .ok (.getfield 205, 3) := by decide +kernel
theorem dX9_latestOf_4 : decode cX9_latestOf 4 = .ok (.getfield 208, 3) := by decide +kernel
theorem dX9_latestOf_7 : decode cX9_latestOf 7 = .ok (.ifCond .ne 11, 3) := by decide +kernel
theorem dX9_latestOf_10 : decode cX9_latestOf 10 = .ok (.new 157, 3) := by decide +kernel
theorem dX9_latestOf_13 : decode cX9_latestOf 13 = .ok (.dup, 1) := by decide +kernel
theorem dX9_latestOf_14 : decode cX9_latestOf 14 = .ok (.invokespecial 159, 3) := by decide +kernel
theorem dX9_latestOf_17 : decode cX9_latestOf 17 = .ok (.athrow, 1) := by decide +kernel
theorem dX9_latestOf_18 : decode cX9_latestOf 18 = .ok (.aload_n 0, 1) := by decide +kernel
theorem dX9_latestOf_19 : decode cX9_latestOf 19 = .ok (.getfield 205, 3) := by decide +kernel
theorem dX9_latestOf_22 : decode cX9_latestOf 22 = .ok (.areturn, 1) := by decide +kernel
set_option maxRecDepth 20000 in
theorem ggX9_resultOf_X9_isDerived : GoodIn wsX9_resultOf wsX9_isDerived := goodIn_r _ [10] (by decide +kernel) (by decide +kernel)
set_option maxRecDepth 20000 in
theorem gX9_resultOf_X9_isDerived : GoodIn wsX9_resultOf (va_wsS RX9 181 yX9_isDerived wsX9_isDerived) := goodIn_app (goodIn_of _ (by decide +kernel)) ggX9_resultOf_X9_isDerived
set_option maxRecDepth 20000 in
theorem ggX9_resultOf_X2_compute : GoodIn wsX9_resultOf wsX2_compute := goodIn_r _ [15, 16, 17, 18, 19, 20, 21, 22, 23, 24, 25, 14, 26, 27, 28, 29, 30, 31, 32, 33, 34, 35, 36, 37, 38, 39, 40, 41, 42, 43, 44, 45, 46, 47, 48, 49, 50, 51, 52, 53, 54, 55, 56, 57, 58, 59, 60, 61, 62, 63, 64, 65, 66, 67, 68, 69, 70, 80, 81, 82, 83, 84, 85, 77, 78, 79, 86, 87, 88, 89, 90, 91, 92, 93, 94, 95, 96, 97, 98] (by decide +kernel) (by decide +kernel)
set_option maxRecDepth 20000 in
theorem gX9_resultOf_X2_compute : GoodIn wsX9_resultOf (wsV RX9 212 RX2 yX2_compute wsX2_compute) := goodIn_app (goodIn_of _ (by decide +kernel)) ggX9_resultOf_X2_compute
theorem dX9_resultOf_0 : decode cX9_resultOf 0 = .ok (.iload_n 1, 1) := by decide +kernel
theorem dX9_resultOf_1 : decode cX9_resultOf 1 = .ok (.invokestatic 181, 3) := by decide +kernel
theorem dX9_resultOf_4 : decode cX9_resultOf 4 = .ok (.ifCond .ne 11, 3) := by decide +kernel
theorem dX9_resultOf_7 : decode cX9_resultOf 7 = .ok (.new 55, 3) := by decide +kernel
theorem dX9_resultOf_10 : decode cX9_resultOf 10 = .ok (.dup, 1) := by decide +kernel
theorem dX9_resultOf_11 : decode cX9_resultOf 11 = .ok (.invokespecial 57, 3) := by decide +kernel
theorem dX9_resultOf_14 : decode cX9_resultOf 14 = .ok (.athrow, 1) := by decide +kernel
theorem dX9_resultOf_15 : decode cX9_resultOf 15 = .ok (.aload_n 0, 1) := by decide +kernel
theorem dX9_resultOf_16 : decode cX9_resultOf 16 = .ok (.getfield 47, 3) := by decide +kernel
theorem dX9_resultOf_19 : decode cX9_resultOf 19 = .ok (.iload_n 1, 1) := by decide +kernel
theorem dX9_resultOf_20 : decode cX9_resultOf 20 = .ok (.aload_n 0, 1) := by decide +kernel
theorem dX9_resultOf_21 : decode cX9_resultOf 21 = .ok (.getfield 10, 3) := by decide +kernel
theorem dX9_resultOf_24 : decode cX9_resultOf 24 = .ok (.invokevirtual 212, 3) := by decide +kernel
theorem dX9_resultOf_27 : decode cX9_resultOf 27 = .ok (.astore_n 2, 1) := by decide +kernel
theorem dX9_resultOf_28 : decode cX9_resultOf 28 = .ok (.aload_n 2, 1) := by decide +kernel
theorem dX9_resultOf_29 : decode cX9_resultOf 29 = .ok (.ifnull 10, 3) := by decide +kernel
theorem dX9_resultOf_32 : decode cX9_resultOf 32 = .ok (.aload_n 2, 1) := by decide +kernel
theorem dX9_resultOf_33 : decode cX9_resultOf 33 = .ok (.getfield 208, 3) := by decide +kernel
theorem dX9_resultOf_36 : decode cX9_resultOf 36 = .ok (.ifCond .ne 11, 3) := by decide +kernel
theorem dX9_resultOf_39 : decode cX9_resultOf 39 = .ok (.new 157, 3) := by decide +kernel
theorem dX9_resultOf_42 : decode cX9_resultOf 42 = .ok (.dup, 1) := by decide +kernel
theorem dX9_resultOf_43 : decode cX9_resultOf 43 = .ok (.invokespecial 159, 3) := by decide +kernel
theorem dX9_resultOf_46 : decode cX9_resultOf 46 = .ok (.athrow, 1) := by decide +kernel
theorem dX9_resultOf_47 : decode cX9_resultOf 47 = .ok (.aload_n 2, 1) := by decide +kernel
theorem dX9_resultOf_48 : decode cX9_resultOf 48 = .ok (.areturn, 1) := by decide +kernel
theorem dX10_init_0 : decode cX10_init 0 = .ok (.aload_n 0, 1) := by decide +kernel
theorem dX10_init_1 : decode cX10_init 1 = .ok (.invokespecial 1, 3) := by decide +kernel
theorem dX10_init_4 : decode cX10_init 4 = .ok (.aload_n 0, 1) := by decide +kernel
theorem dX10_init_5 : decode cX10_init 5 = .ok (.bipush 12, 2) := by decide +kernel
theorem dX10_init_7 : decode cX10_init 7 = .ok (.newarray .int, 2) := by decide +kernel
theorem dX10_init_9 : decode cX10_init 9 = .ok (.putfield 7, 3) := by decide +kernel
theorem dX10_init_12 : decode cX10_init 12 = .ok (.aload_n 0, 1) := by decide +kernel
theorem dX10_init_13 : decode cX10_init 13 = .ok (.bipush 12, 2) := by decide +kernel
theorem dX10_init_15 : decode cX10_init 15 = .ok (.newarray .int, 2) := by decide +kernel
theorem dX10_init_17 : decode cX10_init 17 = .ok (.putfield 13, 3) := by decide +kernel
theorem dX10_init_20 : decode cX10_init 20 = .ok (.aload_n 0, 1) := by decide +kernel
theorem dX10_init_21 : decode cX10_init 21 = .ok (.bipush 12, 2) := by decide +kernel
theorem dX10_init_23 : decode cX10_init 23 = .ok (.newarray .int, 2) := by decide +kernel
theorem dX10_init_25 : decode cX10_init 25 = .ok (.putfield 16, 3) := by decide +kernel
theorem dX10_init_28 : decode cX10_init 28 = .ok (.aload_n 0, 1) := by decide +kernel
theorem dX10_init_29 : decode cX10_init 29 = .ok (.bipush 12, 2) := by decide +kernel
theorem dX10_init_31 : decode cX10_init 31 = .ok (.newarray .int, 2) := by decide +kernel
theorem dX10_init_33 : decode cX10_init 33 = .ok (.putfield 19, 3) := by decide +kernel
theorem dX10_init_36 : decode cX10_init 36 = .ok (.aload_n 0, 1) := by decide +kernel
theorem dX10_init_37 : decode cX10_init 37 = .ok (.bipush 12, 2) := by decide +kernel
theorem dX10_init_39 : decode cX10_init 39 = .ok (.newarray .int, 2) := by decide +kernel
theorem dX10_init_41 : decode cX10_init 41 = .ok (.putfield 22, 3) := by decide +kernel
theorem dX10_init_44 : decode cX10_init 44 = .ok (.aload_n 0, 1) := by decide +kernel
theorem dX10_init_45 : decode cX10_init 45 = .ok (.bipush 12, 2) := by decide +kernel
theorem dX10_init_47 : decode cX10_init 47 = .ok (.newarray .int, 2) := by decide +kernel
theorem dX10_init_49 : decode cX10_init 49 = .ok (.putfield 25, 3) := by decide +kernel
theorem dX10_init_52 : decode cX10_init 52 = .ok (.aload_n 0, 1) := by decide +kernel
theorem dX10_init_53 : decode cX10_init 53 = .ok (.bipush 12, 2) := by decide +kernel
theorem dX10_init_55 : decode cX10_init 55 = .ok (.newarray .int, 2) := by decide +kernel
theorem dX10_init_57 : decode cX10_init 57 = .ok (.putfield 28, 3) := by decide +kernel
theorem dX10_init_60 : decode cX10_init 60 = .ok (.aload_n 0, 1) := by decide +kernel
theorem dX10_init_61 : decode cX10_init 61 = .ok (.bipush 24, 2) := by decide +kernel
theorem dX10_init_63 : decode cX10_init 63 = .ok (.newarray .int, 2) := by decide +kernel
theorem dX10_init_65 : decode cX10_init 65 = .ok (.putfield 31, 3) := by decide +kernel
theorem dX10_init_68 : decode cX10_init 68 = .ok (.aload_n 0, 1) := by decide +kernel
theorem dX10_init_69 : decode cX10_init 69 = .ok (.sipush 8000, 3) := by decide +kernel
theorem dX10_init_72 : decode cX10_init 72 = .ok (.newarray .int, 2) := by decide +kernel
theorem dX10_init_74 : decode cX10_init 74 = .ok (.putfield 34, 3) := by decide +kernel
theorem dX10_init_77 : decode cX10_init 77 = .ok (.aload_n 0, 1) := by decide +kernel
theorem dX10_init_78 : decode cX10_init 78 = .ok (.sipush 8000, 3) := by decide +kernel
theorem dX10_init_81 : decode cX10_init 81 = .ok (.newarray .int, 2) := by decide +kernel
theorem dX10_init_83 : decode cX10_init 83 = .ok (.putfield 37, 3) := by decide +kernel
theorem dX10_init_86 : decode cX10_init 86 = .ok (.aload_n 0, 1) := by decide +kernel
theorem dX10_init_87 : decode cX10_init 87 = .ok (.bipush 12, 2) := by decide +kernel
theorem dX10_init_89 : decode cX10_init 89 = .ok (.newarray .int, 2) := by decide +kernel
theorem dX10_init_91 : decode cX10_init 91 = .ok (.putfield 40, 3) := by decide +kernel
theorem dX10_init_94 : decode cX10_init 94 = .ok (.aload_n 0, 1) := by decide +kernel
theorem dX10_init_95 : decode cX10_init 95 = .ok (.bipush 12, 2) := by decide +kernel
theorem dX10_init_97 : decode cX10_init 97 = .ok (.newarray .int, 2) := by decide +kernel
theorem dX10_init_99 : decode cX10_init 99 = .ok (.putfield 43, 3) := by decide +kernel
theorem dX10_init_102 : decode cX10_init 102 = .ok (.aload_n 0, 1) := by decide +kernel
theorem dX10_init_103 : decode cX10_init 103 = .ok (.bipush 12, 2) := by decide +kernel
theorem dX10_init_105 : decode cX10_init 105 = .ok (.newarray .int, 2) := by decide +kernel
theorem dX10_init_107 : decode cX10_init 107 = .ok (.putfield 46, 3) := by decide +kernel
theorem dX10_init_110 : decode cX10_init 110 = .ok (.aload_n 0, 1) := by decide +kernel
theorem dX10_init_111 : decode cX10_init 111 = .ok (.bipush 12, 2) := by decide +kernel
theorem dX10_init_113 : decode cX10_init 113 = .ok (.newarray .int, 2) := by decide +kernel
theorem dX10_init_115 : decode cX10_init 115 = .ok (.putfield 49, 3) := by decide +kernel
theorem dX10_init_118 : decode cX10_init 118 = .ok (.aload_n 0, 1) := by decide +kernel
theorem dX10_init_119 : decode cX10_init 119 = .ok (.bipush 8, 2) := by decide +kernel
theorem dX10_init_121 : decode cX10_init 121 = .ok (.newarray .int, 2) := by decide +kernel
theorem dX10_init_123 : decode cX10_init 123 = .ok (.putfield 52, 3) := by decide +kernel
theorem dX10_init_126 : decode cX10_init 126 = .ok (.aload_n 0, 1) := by decide +kernel
theorem dX10_init_127 : decode cX10_init 127 = .ok (.bipush 8, 2) := by decide +kernel
theorem dX10_init_129 : decode cX10_init 129 = .ok (.newarray .int, 2) := by decide +kernel
theorem dX10_init_131 : decode cX10_init 131 = .ok (.putfield 55, 3) := by decide +kernel
theorem dX10_init_134 : decode cX10_init 134 = .ok (.aload_n 0, 1) := by decide +kernel
theorem dX10_init_135 : decode cX10_init 135 = .ok (.bipush 8, 2) := by decide +kernel
theorem dX10_init_137 : decode cX10_init 137 = .ok (.newarray .int, 2) := by decide +kernel
theorem dX10_init_139 : decode cX10_init 139 = .ok (.putfield 58, 3) := by decide +kernel
theorem dX10_init_142 : decode cX10_init 142 = .ok (.aload_n 0, 1) := by decide +kernel
theorem dX10_init_143 : decode cX10_init 143 = .ok (.bipush 8, 2) := by decide +kernel
theorem dX10_init_145 : decode cX10_init 145 = .ok (.newarray .boolean, 2) := by decide +kernel
theorem dX10_init_147 : decode cX10_init 147 = .ok (.putfield 61, 3) := by decide +kernel
theorem dX10_init_150 : decode cX10_init 150 = .ok (.aload_n 0, 1) := by decide +kernel
theorem dX10_init_151 : decode cX10_init 151 = .ok (.bipush 8, 2) := by decide +kernel
theorem dX10_init_153 : decode cX10_init 153 = .ok (.newarray .int, 2) := by decide +kernel
theorem dX10_init_155 : decode cX10_init 155 = .ok (.putfield 65, 3) := by decide +kernel
theorem dX10_init_158 : decode cX10_init 158 = .ok (.aload_n 0, 1) := by decide +kernel
theorem dX10_init_159 : decode cX10_init 159 = .ok (.bipush 8, 2) := by decide +kernel
theorem dX10_init_161 : decode cX10_init 161 = .ok (.newarray .int, 2) := by decide +kernel
theorem dX10_init_163 : decode cX10_init 163 = .ok (.putfield 68, 3) := by decide +kernel
theorem dX10_init_166 : decode cX10_init 166 = .ok (.aload_n 0, 1) := by decide +kernel
theorem dX10_init_167 : decode cX10_init 167 = .ok (.iconst (-1), 1) := by decide +kernel
theorem dX10_init_168 : decode cX10_init 168 = .ok (.putfield 71, 3) := by decide +kernel
theorem dX10_init_171 : decode cX10_init 171 = .ok (.aload_n 0, 1) := by decide +kernel
theorem dX10_init_172 : decode cX10_init 172 = .ok (.iconst (-1), 1) := by decide +kernel
theorem dX10_init_173 : decode cX10_init 173 = .ok (.putfield 75, 3) := by decide +kernel
theorem dX10_init_176 : decode cX10_init 176 = .ok (.iconst 0, 1) := by decide +kernel
theorem dX10_init_177 : decode cX10_init 177 = .ok (.istore_n 1, 1) := by decide +kernel
theorem dX10_init_178 : decode cX10_init 178 = .ok (.iload_n 1, 1) := by decide +kernel
theorem dX10_init_179 : decode cX10_init 179 = .ok (.bipush 8, 2) := by decide +kernel
theorem dX10_init_181 : decode cX10_init 181 = .ok (.if_icmp .ge 16, 3) := by decide +kernel
theorem dX10_init_184 : decode cX10_init 184 = .ok (.aload_n 0, 1) := by decide +kernel
theorem dX10_init_185 : decode cX10_init 185 = .ok (.getfield 52, 3) := by decide +kernel
theorem dX10_init_188 : decode cX10_init 188 = .ok (.iload_n 1, 1) := by decide +kernel
theorem dX10_init_189 : decode cX10_init 189 = .ok (.iconst (-1), 1) := by decide +kernel
theorem dX10_init_190 : decode cX10_init 190 = .ok (.iastore, 1) := by decide +kernel
theorem dX10_init_191 : decode cX10_init 191 = .ok (.iinc 1 1, 3) := by decide +kernel
theorem dX10_init_194 : decode cX10_init 194 = .ok (.goto (-16), 3) := by decide +kernel
theorem dX10_init_197 : decode cX10_init 197 = .ok (.return_, 1) := by decide +kernel
theorem dX10_thrown_0 : decode cX10_thrown 0 = .ok (.aload_n 0, 1) := by decide +kernel
theorem dX10_thrown_1 : decode cX10_thrown 1 = .ok (.getfield 78, 3) := by decide +kernel
theorem dX10_thrown_4 : decode cX10_thrown 4 = .ok (.ireturn, 1) := by decide +kernel
theorem dX10_can_0 : decode cX10_can 0 = .ok (.aload_n 0, 1) := by decide +kernel
theorem dX10_can_1 : decode cX10_can 1 = .ok (.iload_n 1, 1) := by decide +kernel
theorem dX10_can_2 : decode cX10_can 2 = .ok (.putfield 78, 3) := by decide +kernel
theorem dX10_can_5 : decode cX10_can 5 = .ok (.iload_n 1, 1) := by decide +kernel
theorem dX10_can_6 : decode cX10_can 6 = .ok (.ifCond .ne 7, 3) := by decide +kernel
theorem dX10_can_9 : decode cX10_can 9 = .ok (.iconst 1, 1) := by decide +kernel
theorem dX10_can_10 : decode cX10_can 10 = .ok (.goto 4, 3) := by decide +kernel
theorem dX10_can_13 : decode cX10_can 13 = .ok (.iconst 0, 1) := by decide +kernel
theorem dX10_can_14 : decode cX10_can 14 = .ok (.ireturn, 1) := by decide +kernel
theorem dX10_isIn_0 : decode cX10_isIn 0 = .ok (.iload_n 0, 1) := by decide +kernel
theorem dX10_isIn_1 : decode cX10_isIn 1 = .ok (.iload_n 1, 1) := by decide +kernel
theorem dX10_isIn_2 : decode cX10_isIn 2 = .ok (.if_icmp .lt 12, 3) := by decide +kernel
theorem dX10_isIn_5 : decode cX10_isIn 5 = .ok (.iload_n 0, 1) := by decide +kernel
theorem dX10_isIn_6 : decode cX10_isIn 6 = .ok (.iload_n 2, 1) := by decide +kernel
theorem dX10_isIn_7 : decode cX10_isIn 7 = .ok (.if_icmp .gt 7, 3) := by decide +kernel
theorem dX10_isIn_10 : decode cX10_isIn 10 = .ok (.iconst 1, 1) := by decide +kernel
theorem dX10_isIn_11 : decode cX10_isIn 11 = .ok (.goto 4, 3) := by decide +kernel
theorem dX10_isIn_14 : decode cX10_isIn 14 = .ok (.iconst 0, 1) := by decide +kernel
theorem dX10_isIn_15 : decode cX10_isIn 15 = .ok (.ireturn, 1) := by decide +kernel
set_option maxRecDepth 20000 in
theorem ggX10_isPoint_X10_isIn : GoodIn wsX10_isPoint wsX10_isIn := goodIn_r _ [5] (by decide +kernel) (by decide +kernel)
set_option maxRecDepth 20000 in
theorem gX10_isPoint_X10_isIn : GoodIn wsX10_isPoint (va_wsS RX10 84 yX10_isIn wsX10_isIn) := goodIn_app (goodIn_of _ (by decide +kernel)) ggX10_isPoint_X10_isIn
theorem dX10_isPoint_0 : decode cX10_isPoint 0 = .ok (.iload_n 1, 1) := by decide +kernel
theorem dX10_isPoint_1 : decode cX10_isPoint 1 = .ok (.iconst 0, 1) := by decide +kernel
theorem dX10_isPoint_2 : decode cX10_isPoint 2 = .ok (.aload_n 0, 1) := by decide +kernel
theorem dX10_isPoint_3 : decode cX10_isPoint 3 = .ok (.getfield 81, 3) := by decide +kernel
theorem dX10_isPoint_6 : decode cX10_isPoint 6 = .ok (.iconst 1, 1) := by decide +kernel
theorem dX10_isPoint_7 : decode cX10_isPoint 7 = .ok (.isub, 1) := by decide +kernel
theorem dX10_isPoint_8 : decode cX10_isPoint 8 = .ok (.invokestatic 84, 3) := by decide +kernel
theorem dX10_isPoint_11 : decode cX10_isPoint 11 = .ok (.ireturn, 1) := by decide +kernel
theorem dX10_isSent_0 : decode cX10_isSent 0 = .ok (.iload_n 2, 1) := by decide +kernel
theorem dX10_isSent_1 : decode cX10_isSent 1 = .ok (.aload_n 0, 1) := by decide +kernel
theorem dX10_isSent_2 : decode cX10_isSent 2 = .ok (.getfield 16, 3) := by decide +kernel
theorem dX10_isSent_5 : decode cX10_isSent 5 = .ok (.iload_n 1, 1) := by decide +kernel
theorem dX10_isSent_6 : decode cX10_isSent 6 = .ok (.iaload, 1) := by decide +kernel
theorem dX10_isSent_7 : decode cX10_isSent 7 = .ok (.irem, 1) := by decide +kernel
theorem dX10_isSent_8 : decode cX10_isSent 8 = .ok (.aload_n 0, 1) := by decide +kernel
theorem dX10_isSent_9 : decode cX10_isSent 9 = .ok (.getfield 22, 3) := by decide +kernel
theorem dX10_isSent_12 : decode cX10_isSent 12 = .ok (.iload_n 1, 1) := by decide +kernel
theorem dX10_isSent_13 : decode cX10_isSent 13 = .ok (.iaload, 1) := by decide +kernel
theorem dX10_isSent_14 : decode cX10_isSent 14 = .ok (.if_icmp .ne 7, 3) := by decide +kernel
theorem dX10_isSent_17 : decode cX10_isSent 17 = .ok (.iconst 1, 1) := by decide +kernel
theorem dX10_isSent_18 : decode cX10_isSent 18 = .ok (.goto 4, 3) := by decide +kernel
theorem dX10_isSent_21 : decode cX10_isSent 21 = .ok (.iconst 0, 1) := by decide +kernel
theorem dX10_isSent_22 : decode cX10_isSent 22 = .ok (.ireturn, 1) := by decide +kernel
set_option maxRecDepth 20000 in
theorem ggX10_userOf_X10_isSent : GoodIn wsX10_userOf wsX10_isSent := goodIn_r _ [9, 10, 11, 12, 13, 14, 15, 16, 17, 18, 19, 20, 21, 22, 23, 24, 25, 26, 27, 28, 29, 30, 31, 32, 33, 34, 35, 36, 37, 38, 39, 40, 41, 42, 43, 44, 45, 46] (by decide +kernel) (by decide +kernel)
set_option maxRecDepth 20000 in
theorem gX10_userOf_X10_isSent : GoodIn wsX10_userOf (wsV RX10 88 RX10 yX10_isSent wsX10_isSent) := goodIn_app (goodIn_of _ (by decide +kernel)) ggX10_userOf_X10_isSent
theorem dX10_userOf_0 : decode cX10_userOf 0 = .ok (.iconst (-1), 1) := by decide +kernel
theorem dX10_userOf_1 : decode cX10_userOf 1 = .ok (.istore_n 3, 1) := by decide +kernel
theorem dX10_userOf_2 : decode cX10_userOf 2 = .ok (.iconst 0, 1) := by decide +kernel
theorem dX10_userOf_3 : decode cX10_userOf 3 = .ok (.istore 4, 2) := by decide +kernel
theorem dX10_userOf_5 : decode cX10_userOf 5 = .ok (.iload 4, 2) := by decide +kernel
theorem dX10_userOf_7 : decode cX10_userOf 7 = .ok (.aload_n 0, 1) := by decide +kernel
theorem dX10_userOf_8 : decode cX10_userOf 8 = .ok (.getfield 81, 3) := by decide +kernel
theorem dX10_userOf_11 : decode cX10_userOf 11 = .ok (.if_icmp .ge 127, 3) := by decide +kernel
theorem dX10_userOf_14 : decode cX10_userOf 14 = .ok (.iload_n 2, 1) := by decide +kernel
theorem dX10_userOf_15 : decode cX10_userOf 15 = .ok (.aload_n 0, 1) := by decide +kernel
theorem dX10_userOf_16 : decode cX10_userOf 16 = .ok (.getfield 25, 3) := by decide +kernel
theorem dX10_userOf_19 : decode cX10_userOf 19 = .ok (.iload 4, 2) := by decide +kernel
theorem dX10_userOf_21 : decode cX10_userOf 21 = .ok (.iaload, 1) := by decide +kernel
theorem dX10_userOf_22 : decode cX10_userOf 22 = .ok (.if_icmp .lt 26, 3) := by decide +kernel
theorem dX10_userOf_25 : decode cX10_userOf 25 = .ok (.iload_n 2, 1) := by decide +kernel
theorem dX10_userOf_26 : decode cX10_userOf 26 = .ok (.aload_n 0, 1) := by decide +kernel
theorem dX10_userOf_27 : decode cX10_userOf 27 = .ok (.getfield 25, 3) := by decide +kernel
theorem dX10_userOf_30 : decode cX10_userOf 30 = .ok (.iload 4, 2) := by decide +kernel
theorem dX10_userOf_32 : decode cX10_userOf 32 = .ok (.iaload, 1) := by decide +kernel
theorem dX10_userOf_33 : decode cX10_userOf 33 = .ok (.aload_n 0, 1) := by decide +kernel
theorem dX10_userOf_34 : decode cX10_userOf 34 = .ok (.getfield 7, 3) := by decide +kernel
theorem dX10_userOf_37 : decode cX10_userOf 37 = .ok (.iload 4, 2) := by decide +kernel
theorem dX10_userOf_39 : decode cX10_userOf 39 = .ok (.iaload, 1) := by decide +kernel
theorem dX10_userOf_40 : decode cX10_userOf 40 = .ok (.iadd, 1) := by decide +kernel
theorem dX10_userOf_41 : decode cX10_userOf 41 = .ok (.if_icmp .ge 7, 3) := by decide +kernel
theorem dX10_userOf_44 : decode cX10_userOf 44 = .ok (.iconst 1, 1) := by decide +kernel
theorem dX10_userOf_45 : decode cX10_userOf 45 = .ok (.goto 4, 3) := by decide +kernel
theorem dX10_userOf_48 : decode cX10_userOf 48 = .ok (.iconst 0, 1) := by decide +kernel
theorem dX10_userOf_49 : decode cX10_userOf 49 = .ok (.istore 5, 2) := by decide +kernel
theorem dX10_userOf_51 : decode cX10_userOf 51 = .ok (.aload_n 0, 1) := by decide +kernel
theorem dX10_userOf_52 : decode cX10_userOf 52 = .ok (.getfield 19, 3) := by decide +kernel
theorem dX10_userOf_55 : decode cX10_userOf 55 = .ok (.iload 4, 2) := by decide +kernel
theorem dX10_userOf_57 : decode cX10_userOf 57 = .ok (.iaload, 1) := by decide +kernel
theorem dX10_userOf_58 : decode cX10_userOf 58 = .ok (.iconst 2, 1) := by decide +kernel
theorem dX10_userOf_59 : decode cX10_userOf 59 = .ok (.if_icmp .ne 43, 3) := by decide +kernel
theorem dX10_userOf_62 : decode cX10_userOf 62 = .ok (.iload_n 2, 1) := by decide +kernel
theorem dX10_userOf_63 : decode cX10_userOf 63 = .ok (.bipush 24, 2) := by decide +kernel
theorem dX10_userOf_65 : decode cX10_userOf 65 = .ok (.aload_n 0, 1) := by decide +kernel
theorem dX10_userOf_66 : decode cX10_userOf 66 = .ok (.getfield 25, 3) := by decide +kernel
theorem dX10_userOf_69 : decode cX10_userOf 69 = .ok (.iload 4, 2) := by decide +kernel
theorem dX10_userOf_71 : decode cX10_userOf 71 = .ok (.iaload, 1) := by decide +kernel
theorem dX10_userOf_72 : decode cX10_userOf 72 = .ok (.iadd, 1) := by decide +kernel
theorem dX10_userOf_73 : decode cX10_userOf 73 = .ok (.if_icmp .lt 29, 3) := by decide +kernel
theorem dX10_userOf_76 : decode cX10_userOf 76 = .ok (.iload_n 2, 1) := by decide +kernel
theorem dX10_userOf_77 : decode cX10_userOf 77 = .ok (.bipush 24, 2) := by decide +kernel
theorem dX10_userOf_79 : decode cX10_userOf 79 = .ok (.aload_n 0, 1) := by decide +kernel
theorem dX10_userOf_80 : decode cX10_userOf 80 = .ok (.getfield 25, 3) := by decide +kernel
theorem dX10_userOf_83 : decode cX10_userOf 83 = .ok (.iload 4, 2) := by decide +kernel
theorem dX10_userOf_85 : decode cX10_userOf 85 = .ok (.iaload, 1) := by decide +kernel
theorem dX10_userOf_86 : decode cX10_userOf 86 = .ok (.iadd, 1) := by decide +kernel
theorem dX10_userOf_87 : decode cX10_userOf 87 = .ok (.aload_n 0, 1) := by decide +kernel
theorem dX10_userOf_88 : decode cX10_userOf 88 = .ok (.getfield 7, 3) := by decide +kernel
theorem dX10_userOf_91 : decode cX10_userOf 91 = .ok (.iload 4, 2) := by decide +kernel
theorem dX10_userOf_93 : decode cX10_userOf 93 = .ok (.iaload, 1) := by decide +kernel
theorem dX10_userOf_94 : decode cX10_userOf 94 = .ok (.iadd, 1) := by decide +kernel
theorem dX10_userOf_95 : decode cX10_userOf 95 = .ok (.if_icmp .ge 7, 3) := by decide +kernel
theorem dX10_userOf_98 : decode cX10_userOf 98 = .ok (.iconst 1, 1) := by decide +kernel
theorem dX10_userOf_99 : decode cX10_userOf 99 = .ok (.goto 4, 3) := by decide +kernel
theorem dX10_userOf_102 : decode cX10_userOf 102 = .ok (.iconst 0, 1) := by decide +kernel
theorem dX10_userOf_103 : decode cX10_userOf 103 = .ok (.istore 6, 2) := by decide +kernel
theorem dX10_userOf_105 : decode cX10_userOf 105 = .ok (.aload_n 0, 1) := by decide +kernel
theorem dX10_userOf_106 : decode cX10_userOf 106 = .ok (.iload 4, 2) := by decide +kernel
theorem dX10_userOf_108 : decode cX10_userOf 108 = .ok (.iload_n 1, 1) := by decide +kernel
theorem dX10_userOf_109 : decode cX10_userOf 109 = .ok (.invokevirtual 88, 3) := by decide +kernel
theorem dX10_userOf_112 : decode cX10_userOf 112 = .ok (.ifCond .eq 18, 3) := by decide +kernel
theorem dX10_userOf_115 : decode cX10_userOf 115 = .ok (.iload 5, 2) := by decide +kernel
theorem dX10_userOf_117 : decode cX10_userOf 117 = .ok (.ifCond .ne 8, 3) := by decide +kernel
theorem dX10_userOf_120 : decode cX10_userOf 120 = .ok (.iload 6, 2) := by decide +kernel
theorem dX10_userOf_122 : decode cX10_userOf 122 = .ok (.ifCond .eq 8, 3) := by decide +kernel
theorem dX10_userOf_125 : decode cX10_userOf 125 = .ok (.iload 4, 2) := by decide +kernel
theorem dX10_userOf_127 : decode cX10_userOf 127 = .ok (.goto 4, 3) := by decide +kernel
theorem dX10_userOf_130 : decode cX10_userOf 130 = .ok (.iload_n 3, 1) := by decide +kernel
theorem dX10_userOf_131 : decode cX10_userOf 131 = .ok (.istore_n 3, 1) := by decide +kernel
theorem dX10_userOf_132 : decode cX10_userOf 132 = .ok (.iinc 4 1, 3) := by decide +kernel
theorem dX10_userOf_135 : decode cX10_userOf 135 = .ok (.goto (-130), 3) := by decide +kernel
theorem dX10_userOf_138 : decode cX10_userOf 138 = .ok (.iload_n 3, 1) := by decide +kernel
theorem dX10_userOf_139 : decode cX10_userOf 139 = .ok (.ireturn, 1) := by decide +kernel
set_option maxRecDepth 20000 in
theorem ggX10_isFree_X10_userOf : GoodIn wsX10_isFree wsX10_userOf := goodIn_r _ [5, 6, 7, 8, 9, 10, 11, 12, 4, 13, 14, 15, 16, 17, 18, 19, 20, 21, 22, 23, 24, 25, 26, 27, 28, 29, 30, 31, 32, 33, 34, 35, 36, 37, 38, 39, 40, 41, 42, 43, 44, 45, 46, 47, 48, 49, 50] (by decide +kernel) (by decide +kernel)
set_option maxRecDepth 20000 in
theorem gX10_isFree_X10_userOf : GoodIn wsX10_isFree (wsV RX10 92 RX10 yX10_userOf wsX10_userOf) := goodIn_app (goodIn_of _ (by decide +kernel)) ggX10_isFree_X10_userOf
theorem dX10_isFree_0 : decode cX10_isFree 0 = .ok (.iconst 1, 1) := by decide +kernel
theorem dX10_isFree_1 : decode cX10_isFree 1 = .ok (.istore 6, 2) := by decide +kernel
theorem dX10_isFree_3 : decode cX10_isFree 3 = .ok (.iload_n 3, 1) := by decide +kernel
theorem dX10_isFree_4 : decode cX10_isFree 4 = .ok (.istore 7, 2) := by decide +kernel
theorem dX10_isFree_6 : decode cX10_isFree 6 = .ok (.iload 7, 2) := by decide +kernel
theorem dX10_isFree_8 : decode cX10_isFree 8 = .ok (.iconst 4, 1) := by decide +kernel
theorem dX10_isFree_9 : decode cX10_isFree 9 = .ok (.if_icmp .ge 77, 3) := by decide +kernel
theorem dX10_isFree_12 : decode cX10_isFree 12 = .ok (.iconst 0, 1) := by decide +kernel
theorem dX10_isFree_13 : decode cX10_isFree 13 = .ok (.istore 8, 2) := by decide +kernel
theorem dX10_isFree_15 : decode cX10_isFree 15 = .ok (.iload 8, 2) := by decide +kernel
theorem dX10_isFree_17 : decode cX10_isFree 17 = .ok (.iload_n 2, 1) := by decide +kernel
theorem dX10_isFree_18 : decode cX10_isFree 18 = .ok (.if_icmp .ge 58, 3) := by decide +kernel
theorem dX10_isFree_21 : decode cX10_isFree 21 = .ok (.iload 6, 2) := by decide +kernel
theorem dX10_isFree_23 : decode cX10_isFree 23 = .ok (.ifCond .eq 44, 3) := by decide +kernel
theorem dX10_isFree_26 : decode cX10_isFree 26 = .ok (.aload_n 0, 1) := by decide +kernel
theorem dX10_isFree_27 : decode cX10_isFree 27 = .ok (.iload 7, 2) := by decide +kernel
theorem dX10_isFree_29 : decode cX10_isFree 29 = .ok (.iload_n 1, 1) := by decide +kernel
theorem dX10_isFree_30 : decode cX10_isFree 30 = .ok (.iload 8, 2) := by decide +kernel
theorem dX10_isFree_32 : decode cX10_isFree 32 = .ok (.iadd, 1) := by decide +kernel
theorem dX10_isFree_33 : decode cX10_isFree 33 = .ok (.invokevirtual 92, 3) := by decide +kernel
theorem dX10_isFree_36 : decode cX10_isFree 36 = .ok (.iconst (-1), 1) := by decide +kernel
theorem dX10_isFree_37 : decode cX10_isFree 37 = .ok (.if_icmp .ne 30, 3) := by decide +kernel
theorem dX10_isFree_40 : decode cX10_isFree 40 = .ok (.iload 5, 2) := by decide +kernel
theorem dX10_isFree_42 : decode cX10_isFree 42 = .ok (.iconst 1, 1) := by decide +kernel
end
section
theorem dX10_isFree_43 : decode cX10_isFree 43 = .ok (.if_icmp .eq 20, 3) := by decide +kernel
theorem dX10_isFree_46 : decode cX10_isFree 46 = .ok (.aload_n 0, 1) := by decide +kernel
theorem dX10_isFree_47 : decode cX10_isFree 47 = .ok (.iload 7, 2) := by decide +kernel
theorem dX10_isFree_49 : decode cX10_isFree 49 = .ok (.bipush 24, 2) := by decide +kernel
theorem dX10_isFree_51 : decode cX10_isFree 51 = .ok (.iload_n 1, 1) := by decide +kernel
theorem dX10_isFree_52 : decode cX10_isFree 52 = .ok (.iadd, 1) := by decide +kernel
theorem dX10_isFree_53 : decode cX10_isFree 53 = .ok (.iload 8, 2) := by decide +kernel
theorem dX10_isFree_55 : decode cX10_isFree 55 = .ok (.iadd, 1) := by decide +kernel
theorem dX10_isFree_56 : decode cX10_isFree 56 = .ok (.invokevirtual 92, 3) := by decide +kernel
theorem dX10_isFree_59 : decode cX10_isFree 59 = .ok (.iconst (-1), 1) := by decide +kernel
theorem dX10_isFree_60 : decode cX10_isFree 60 = .ok (.if_icmp .ne 7, 3) := by decide +kernel
theorem dX10_isFree_63 : decode cX10_isFree 63 = .ok (.iconst 1, 1) := by decide +kernel
theorem dX10_isFree_64 : decode cX10_isFree 64 = .ok (.goto 4, 3) := by decide +kernel
theorem dX10_isFree_67 : decode cX10_isFree 67 = .ok (.iconst 0, 1) := by decide +kernel
theorem dX10_isFree_68 : decode cX10_isFree 68 = .ok (.istore 6, 2) := by decide +kernel
theorem dX10_isFree_70 : decode cX10_isFree 70 = .ok (.iinc 8 1, 3) := by decide +kernel
theorem dX10_isFree_73 : decode cX10_isFree 73 = .ok (.goto (-58), 3) := by decide +kernel
theorem dX10_isFree_76 : decode cX10_isFree 76 = .ok (.iload 7, 2) := by decide +kernel
theorem dX10_isFree_78 : decode cX10_isFree 78 = .ok (.iload 4, 2) := by decide +kernel
theorem dX10_isFree_80 : decode cX10_isFree 80 = .ok (.iadd, 1) := by decide +kernel
theorem dX10_isFree_81 : decode cX10_isFree 81 = .ok (.istore 7, 2) := by decide +kernel
theorem dX10_isFree_83 : decode cX10_isFree 83 = .ok (.goto (-77), 3) := by decide +kernel
theorem dX10_isFree_86 : decode cX10_isFree 86 = .ok (.iload 6, 2) := by decide +kernel
theorem dX10_isFree_88 : decode cX10_isFree 88 = .ok (.ireturn, 1) := by decide +kernel
set_option maxRecDepth 20000 in
theorem ggX10_firstPlace_X10_isFree : GoodIn wsX10_firstPlace wsX10_isFree := goodIn_r _ [5, 6, 7, 8, 4, 9, 10, 11, 12, 13, 14, 15, 16, 17, 18, 19, 20, 21, 22, 23, 24, 25, 26, 27, 28, 29, 30, 31, 32, 33, 34, 35, 36, 37, 38, 39, 40, 41, 42, 43, 44, 45, 46, 47, 48, 49, 50, 51, 52, 53, 54] (by decide +kernel) (by decide +kernel)
set_option maxRecDepth 20000 in
theorem gX10_firstPlace_X10_isFree : GoodIn wsX10_firstPlace (wsV RX10 96 RX10 yX10_isFree wsX10_isFree) := goodIn_app (goodIn_of _ (by decide +kernel)) ggX10_firstPlace_X10_isFree
theorem dX10_firstPlace_0 : decode cX10_firstPlace 0 = .ok (.iconst 0, 1) := by decide +kernel
theorem dX10_firstPlace_1 : decode cX10_firstPlace 1 = .ok (.istore 4, 2) := by decide +kernel
theorem dX10_firstPlace_3 : decode cX10_firstPlace 3 = .ok (.iload 4, 2) := by decide +kernel
theorem dX10_firstPlace_5 : decode cX10_firstPlace 5 = .ok (.iload_n 2, 1) := by decide +kernel
theorem dX10_firstPlace_6 : decode cX10_firstPlace 6 = .ok (.if_icmp .ge 60, 3) := by decide +kernel
theorem dX10_firstPlace_9 : decode cX10_firstPlace 9 = .ok (.iconst 0, 1) := by decide +kernel
theorem dX10_firstPlace_10 : decode cX10_firstPlace 10 = .ok (.istore 5, 2) := by decide +kernel
theorem dX10_firstPlace_12 : decode cX10_firstPlace 12 = .ok (.iload 5, 2) := by decide +kernel
theorem dX10_firstPlace_14 : decode cX10_firstPlace 14 = .ok (.iload_n 1, 1) := by decide +kernel
theorem dX10_firstPlace_15 : decode cX10_firstPlace 15 = .ok (.iadd, 1) := by decide +kernel
theorem dX10_firstPlace_16 : decode cX10_firstPlace 16 = .ok (.iload_n 3, 1) := by decide +kernel
theorem dX10_firstPlace_17 : decode cX10_firstPlace 17 = .ok (.iconst 2, 1) := by decide +kernel
theorem dX10_firstPlace_18 : decode cX10_firstPlace 18 = .ok (.if_icmp .ne 8, 3) := by decide +kernel
theorem dX10_firstPlace_21 : decode cX10_firstPlace 21 = .ok (.bipush 24, 2) := by decide +kernel
theorem dX10_firstPlace_23 : decode cX10_firstPlace 23 = .ok (.goto 5, 3) := by decide +kernel
theorem dX10_firstPlace_26 : decode cX10_firstPlace 26 = .ok (.bipush 48, 2) := by decide +kernel
theorem dX10_firstPlace_28 : decode cX10_firstPlace 28 = .ok (.if_icmp .gt 32, 3) := by decide +kernel
theorem dX10_firstPlace_31 : decode cX10_firstPlace 31 = .ok (.aload_n 0, 1) := by decide +kernel
theorem dX10_firstPlace_32 : decode cX10_firstPlace 32 = .ok (.iload 5, 2) := by decide +kernel
theorem dX10_firstPlace_34 : decode cX10_firstPlace 34 = .ok (.iload_n 1, 1) := by decide +kernel
theorem dX10_firstPlace_35 : decode cX10_firstPlace 35 = .ok (.iload 4, 2) := by decide +kernel
theorem dX10_firstPlace_37 : decode cX10_firstPlace 37 = .ok (.iload_n 2, 1) := by decide +kernel
theorem dX10_firstPlace_38 : decode cX10_firstPlace 38 = .ok (.iload_n 3, 1) := by decide +kernel
theorem dX10_firstPlace_39 : decode cX10_firstPlace 39 = .ok (.invokevirtual 96, 3) := by decide +kernel
theorem dX10_firstPlace_42 : decode cX10_firstPlace 42 = .ok (.ifCond .eq 12, 3) := by decide +kernel
theorem dX10_firstPlace_45 : decode cX10_firstPlace 45 = .ok (.bipush 100, 2) := by decide +kernel
theorem dX10_firstPlace_47 : decode cX10_firstPlace 47 = .ok (.iload 4, 2) := by decide +kernel
theorem dX10_firstPlace_49 : decode cX10_firstPlace 49 = .ok (.imul, 1) := by decide +kernel
theorem dX10_firstPlace_50 : decode cX10_firstPlace 50 = .ok (.iload 5, 2) := by decide +kernel
theorem dX10_firstPlace_52 : decode cX10_firstPlace 52 = .ok (.iadd, 1) := by decide +kernel
theorem dX10_firstPlace_53 : decode cX10_firstPlace 53 = .ok (.ireturn, 1) := by decide +kernel
theorem dX10_firstPlace_54 : decode cX10_firstPlace 54 = .ok (.iinc 5 1, 3) := by decide +kernel
theorem dX10_firstPlace_57 : decode cX10_firstPlace 57 = .ok (.goto (-45), 3) := by decide +kernel
theorem dX10_firstPlace_60 : decode cX10_firstPlace 60 = .ok (.iinc 4 1, 3) := by decide +kernel
theorem dX10_firstPlace_63 : decode cX10_firstPlace 63 = .ok (.goto (-60), 3) := by decide +kernel
theorem dX10_firstPlace_66 : decode cX10_firstPlace 66 = .ok (.iconst (-1), 1) := by decide +kernel
theorem dX10_firstPlace_67 : decode cX10_firstPlace 67 = .ok (.ireturn, 1) := by decide +kernel
set_option maxRecDepth 20000 in
theorem ggX10_addPoint_X10_isIn : GoodIn wsX10_addPoint wsX10_isIn := goodIn_r _ [12] (by decide +kernel) (by decide +kernel)
set_option maxRecDepth 20000 in
theorem gX10_addPoint_X10_isIn : GoodIn wsX10_addPoint (va_wsS RX10 84 yX10_isIn wsX10_isIn) := goodIn_app (goodIn_of _ (by decide +kernel)) ggX10_addPoint_X10_isIn
set_option maxRecDepth 20000 in
theorem ggX10_addPoint_X10_firstPlace : GoodIn wsX10_addPoint wsX10_firstPlace := goodIn_r _ [16, 17, 18, 19, 11, 20, 21, 22, 23, 24, 1, 8, 3, 6, 25, 26, 27, 28, 5, 7, 34, 35, 36, 37, 38, 39, 40, 41, 42, 43, 44, 45, 46, 47, 48, 49, 50, 51, 52, 53, 54, 55, 56, 57, 58, 59, 60, 61, 62, 63, 64, 65, 66, 67, 68] (by decide +kernel) (by decide +kernel)
set_option maxRecDepth 20000 in
theorem gX10_addPoint_X10_firstPlace : GoodIn wsX10_addPoint (wsV RX10 100 RX10 yX10_firstPlace wsX10_firstPlace) := goodIn_app (goodIn_of _ (by decide +kernel)) ggX10_addPoint_X10_firstPlace
set_option maxRecDepth 20000 in
theorem ggX10_addPoint_X10_can : GoodIn wsX10_addPoint wsX10_can := goodIn_r _ [32, 33, 34, 35, 36, 37, 38, 39, 40, 41, 42, 43, 44, 45, 46, 47, 48, 49, 50, 51, 52, 53, 54, 55, 56, 57, 58, 59, 60, 61, 62, 63, 64, 65, 66, 67, 68] (by decide +kernel) (by decide +kernel)
set_option maxRecDepth 20000 in
theorem gX10_addPoint_X10_can : GoodIn wsX10_addPoint (wsV RX10 107 RX10 yX10_can wsX10_can) := goodIn_app (goodIn_of _ (by decide +kernel)) ggX10_addPoint_X10_can
theorem dX10_addPoint_0 : decode cX10_addPoint 0 = .ok (.iload_n 2, 1) := by decide +kernel
theorem dX10_addPoint_1 : decode cX10_addPoint 1 = .ok (.iconst 0, 1) := by decide +kernel
theorem dX10_addPoint_2 : decode cX10_addPoint 2 = .ok (.iconst 3, 1) := by decide +kernel
theorem dX10_addPoint_3 : decode cX10_addPoint 3 = .ok (.invokestatic 84, 3) := by decide +kernel
theorem dX10_addPoint_6 : decode cX10_addPoint 6 = .ok (.ifCond .eq 45, 3) := by decide +kernel
theorem dX10_addPoint_9 : decode cX10_addPoint 9 = .ok (.iload_n 1, 1) := by decide +kernel
theorem dX10_addPoint_10 : decode cX10_addPoint 10 = .ok (.iload_n 2, 1) := by decide +kernel
theorem dX10_addPoint_11 : decode cX10_addPoint 11 = .ok (.ifCond .ne 7, 3) := by decide +kernel
theorem dX10_addPoint_14 : decode cX10_addPoint 14 = .ok (.iconst 1, 1) := by decide +kernel
theorem dX10_addPoint_15 : decode cX10_addPoint 15 = .ok (.goto 4, 3) := by decide +kernel
theorem dX10_addPoint_18 : decode cX10_addPoint 18 = .ok (.iconst 2, 1) := by decide +kernel
theorem dX10_addPoint_19 : decode cX10_addPoint 19 = .ok (.bipush 12, 2) := by decide +kernel
theorem dX10_addPoint_21 : decode cX10_addPoint 21 = .ok (.invokestatic 84, 3) := by decide +kernel
theorem dX10_addPoint_24 : decode cX10_addPoint 24 = .ok (.ifCond .eq 27, 3) := by decide +kernel
theorem dX10_addPoint_27 : decode cX10_addPoint 27 = .ok (.iload_n 3, 1) := by decide +kernel
theorem dX10_addPoint_28 : decode cX10_addPoint 28 = .ok (.iconst 1, 1) := by decide +kernel
theorem dX10_addPoint_29 : decode cX10_addPoint 29 = .ok (.if_icmp .eq 18, 3) := by decide +kernel
theorem dX10_addPoint_32 : decode cX10_addPoint 32 = .ok (.iload 4, 2) := by decide +kernel
theorem dX10_addPoint_34 : decode cX10_addPoint 34 = .ok (.ifCond .ne 17, 3) := by decide +kernel
theorem dX10_addPoint_37 : decode cX10_addPoint 37 = .ok (.iload_n 3, 1) := by decide +kernel
theorem dX10_addPoint_38 : decode cX10_addPoint 38 = .ok (.iconst 2, 1) := by decide +kernel
theorem dX10_addPoint_39 : decode cX10_addPoint 39 = .ok (.if_icmp .eq 8, 3) := by decide +kernel
theorem dX10_addPoint_42 : decode cX10_addPoint 42 = .ok (.iload_n 3, 1) := by decide +kernel
theorem dX10_addPoint_43 : decode cX10_addPoint 43 = .ok (.iconst 4, 1) := by decide +kernel
theorem dX10_addPoint_44 : decode cX10_addPoint 44 = .ok (.if_icmp .ne 7, 3) := by decide +kernel
theorem dX10_addPoint_47 : decode cX10_addPoint 47 = .ok (.iconst 1, 1) := by decide +kernel
theorem dX10_addPoint_48 : decode cX10_addPoint 48 = .ok (.goto 4, 3) := by decide +kernel
theorem dX10_addPoint_51 : decode cX10_addPoint 51 = .ok (.iconst 0, 1) := by decide +kernel
theorem dX10_addPoint_52 : decode cX10_addPoint 52 = .ok (.istore 5, 2) := by decide +kernel
theorem dX10_addPoint_54 : decode cX10_addPoint 54 = .ok (.iload 5, 2) := by decide +kernel
theorem dX10_addPoint_56 : decode cX10_addPoint 56 = .ok (.ifCond .eq 22, 3) := by decide +kernel
theorem dX10_addPoint_59 : decode cX10_addPoint 59 = .ok (.aload_n 0, 1) := by decide +kernel
theorem dX10_addPoint_60 : decode cX10_addPoint 60 = .ok (.iload_n 1, 1) := by decide +kernel
theorem dX10_addPoint_61 : decode cX10_addPoint 61 = .ok (.iload_n 3, 1) := by decide +kernel
theorem dX10_addPoint_62 : decode cX10_addPoint 62 = .ok (.iload 4, 2) := by decide +kernel
theorem dX10_addPoint_64 : decode cX10_addPoint 64 = .ok (.ifCond .eq 7, 3) := by decide +kernel
theorem dX10_addPoint_67 : decode cX10_addPoint 67 = .ok (.iconst 2, 1) := by decide +kernel
theorem dX10_addPoint_68 : decode cX10_addPoint 68 = .ok (.goto 4, 3) := by decide +kernel
theorem dX10_addPoint_71 : decode cX10_addPoint 71 = .ok (.iconst 1, 1) := by decide +kernel
theorem dX10_addPoint_72 : decode cX10_addPoint 72 = .ok (.invokevirtual 100, 3) := by decide +kernel
theorem dX10_addPoint_75 : decode cX10_addPoint 75 = .ok (.goto 4, 3) := by decide +kernel
theorem dX10_addPoint_78 : decode cX10_addPoint 78 = .ok (.iconst (-1), 1) := by decide +kernel
theorem dX10_addPoint_79 : decode cX10_addPoint 79 = .ok (.istore 6, 2) := by decide +kernel
theorem dX10_addPoint_81 : decode cX10_addPoint 81 = .ok (.aload_n 0, 1) := by decide +kernel
theorem dX10_addPoint_82 : decode cX10_addPoint 82 = .ok (.iload 5, 2) := by decide +kernel
theorem dX10_addPoint_84 : decode cX10_addPoint 84 = .ok (.ifCond .ne 7, 3) := by decide +kernel
theorem dX10_addPoint_87 : decode cX10_addPoint 87 = .ok (.iconst 1, 1) := by decide +kernel
theorem dX10_addPoint_88 : decode cX10_addPoint 88 = .ok (.goto 30, 3) := by decide +kernel
theorem dX10_addPoint_91 : decode cX10_addPoint 91 = .ok (.aload_n 0, 1) := by decide +kernel
theorem dX10_addPoint_92 : decode cX10_addPoint 92 = .ok (.getfield 81, 3) := by decide +kernel
theorem dX10_addPoint_95 : decode cX10_addPoint 95 = .ok (.bipush 12, 2) := by decide +kernel
theorem dX10_addPoint_97 : decode cX10_addPoint 97 = .ok (.if_icmp .eq 16, 3) := by decide +kernel
theorem dX10_addPoint_100 : decode cX10_addPoint 100 = .ok (.iload 6, 2) := by decide +kernel
theorem dX10_addPoint_102 : decode cX10_addPoint 102 = .ok (.iconst (-1), 1) := by decide +kernel
theorem dX10_addPoint_103 : decode cX10_addPoint 103 = .ok (.if_icmp .eq 10, 3) := by decide +kernel
theorem dX10_addPoint_106 : decode cX10_addPoint 106 = .ok (.aload_n 0, 1) := by decide +kernel
theorem dX10_addPoint_107 : decode cX10_addPoint 107 = .ok (.getfield 104, 3) := by decide +kernel
theorem dX10_addPoint_110 : decode cX10_addPoint 110 = .ok (.ifCond .le 7, 3) := by decide +kernel
theorem dX10_addPoint_113 : decode cX10_addPoint 113 = .ok (.iconst 2, 1) := by decide +kernel
theorem dX10_addPoint_114 : decode cX10_addPoint 114 = .ok (.goto 4, 3) := by decide +kernel
theorem dX10_addPoint_117 : decode cX10_addPoint 117 = .ok (.iconst 0, 1) := by decide +kernel
theorem dX10_addPoint_118 : decode cX10_addPoint 118 = .ok (.invokevirtual 107, 3) := by decide +kernel
theorem dX10_addPoint_121 : decode cX10_addPoint 121 = .ok (.ifCond .ne 5, 3) := by decide +kernel
theorem dX10_addPoint_124 : decode cX10_addPoint 124 = .ok (.iconst 0, 1) := by decide +kernel
theorem dX10_addPoint_125 : decode cX10_addPoint 125 = .ok (.ireturn, 1) := by decide +kernel
theorem dX10_addPoint_126 : decode cX10_addPoint 126 = .ok (.aload_n 0, 1) := by decide +kernel
theorem dX10_addPoint_127 : decode cX10_addPoint 127 = .ok (.getfield 7, 3) := by decide +kernel
theorem dX10_addPoint_130 : decode cX10_addPoint 130 = .ok (.aload_n 0, 1) := by decide +kernel
theorem dX10_addPoint_131 : decode cX10_addPoint 131 = .ok (.getfield 81, 3) := by decide +kernel
theorem dX10_addPoint_134 : decode cX10_addPoint 134 = .ok (.iload_n 1, 1) := by decide +kernel
theorem dX10_addPoint_135 : decode cX10_addPoint 135 = .ok (.iastore, 1) := by decide +kernel
theorem dX10_addPoint_136 : decode cX10_addPoint 136 = .ok (.aload_n 0, 1) := by decide +kernel
theorem dX10_addPoint_137 : decode cX10_addPoint 137 = .ok (.getfield 13, 3) := by decide +kernel
theorem dX10_addPoint_140 : decode cX10_addPoint 140 = .ok (.aload_n 0, 1) := by decide +kernel
theorem dX10_addPoint_141 : decode cX10_addPoint 141 = .ok (.getfield 81, 3) := by decide +kernel
theorem dX10_addPoint_144 : decode cX10_addPoint 144 = .ok (.iload_n 2, 1) := by decide +kernel
theorem dX10_addPoint_145 : decode cX10_addPoint 145 = .ok (.iastore, 1) := by decide +kernel
theorem dX10_addPoint_146 : decode cX10_addPoint 146 = .ok (.aload_n 0, 1) := by decide +kernel
theorem dX10_addPoint_147 : decode cX10_addPoint 147 = .ok (.getfield 16, 3) := by decide +kernel
theorem dX10_addPoint_150 : decode cX10_addPoint 150 = .ok (.aload_n 0, 1) := by decide +kernel
theorem dX10_addPoint_151 : decode cX10_addPoint 151 = .ok (.getfield 81, 3) := by decide +kernel
theorem dX10_addPoint_154 : decode cX10_addPoint 154 = .ok (.iload_n 3, 1) := by decide +kernel
theorem dX10_addPoint_155 : decode cX10_addPoint 155 = .ok (.iastore, 1) := by decide +kernel
theorem dX10_addPoint_156 : decode cX10_addPoint 156 = .ok (.aload_n 0, 1) := by decide +kernel
theorem dX10_addPoint_157 : decode cX10_addPoint 157 = .ok (.getfield 19, 3) := by decide +kernel
theorem dX10_addPoint_160 : decode cX10_addPoint 160 = .ok (.aload_n 0, 1) := by decide +kernel
theorem dX10_addPoint_161 : decode cX10_addPoint 161 = .ok (.getfield 81, 3) := by decide +kernel
theorem dX10_addPoint_164 : decode cX10_addPoint 164 = .ok (.iload 4, 2) := by decide +kernel
theorem dX10_addPoint_166 : decode cX10_addPoint 166 = .ok (.ifCond .eq 7, 3) := by decide +kernel
theorem dX10_addPoint_169 : decode cX10_addPoint 169 = .ok (.iconst 2, 1) := by decide +kernel
theorem dX10_addPoint_170 : decode cX10_addPoint 170 = .ok (.goto 4, 3) := by decide +kernel
theorem dX10_addPoint_173 : decode cX10_addPoint 173 = .ok (.iconst 1, 1) := by decide +kernel
theorem dX10_addPoint_174 : decode cX10_addPoint 174 = .ok (.iastore, 1) := by decide +kernel
theorem dX10_addPoint_175 : decode cX10_addPoint 175 = .ok (.aload_n 0, 1) := by decide +kernel
theorem dX10_addPoint_176 : decode cX10_addPoint 176 = .ok (.getfield 22, 3) := by decide +kernel
theorem dX10_addPoint_179 : decode cX10_addPoint 179 = .ok (.aload_n 0, 1) := by decide +kernel
theorem dX10_addPoint_180 : decode cX10_addPoint 180 = .ok (.getfield 81, 3) := by decide +kernel
theorem dX10_addPoint_183 : decode cX10_addPoint 183 = .ok (.iload 6, 2) := by decide +kernel
theorem dX10_addPoint_185 : decode cX10_addPoint 185 = .ok (.bipush 100, 2) := by decide +kernel
theorem dX10_addPoint_187 : decode cX10_addPoint 187 = .ok (.idiv, 1) := by decide +kernel
theorem dX10_addPoint_188 : decode cX10_addPoint 188 = .ok (.iastore, 1) := by decide +kernel
theorem dX10_addPoint_189 : decode cX10_addPoint 189 = .ok (.aload_n 0, 1) := by decide +kernel
theorem dX10_addPoint_190 : decode cX10_addPoint 190 = .ok (.getfield 25, 3) := by decide +kernel
theorem dX10_addPoint_193 : decode cX10_addPoint 193 = .ok (.aload_n 0, 1) := by decide +kernel
theorem dX10_addPoint_194 : decode cX10_addPoint 194 = .ok (.getfield 81, 3) := by decide +kernel
theorem dX10_addPoint_197 : decode cX10_addPoint 197 = .ok (.iload 6, 2) := by decide +kernel
theorem dX10_addPoint_199 : decode cX10_addPoint 199 = .ok (.bipush 100, 2) := by decide +kernel
theorem dX10_addPoint_201 : decode cX10_addPoint 201 = .ok (.irem, 1) := by decide +kernel
theorem dX10_addPoint_202 : decode cX10_addPoint 202 = .ok (.iastore, 1) := by decide +kernel
theorem dX10_addPoint_203 : decode cX10_addPoint 203 = .ok (.aload_n 0, 1) := by decide +kernel
theorem dX10_addPoint_204 : decode cX10_addPoint 204 = .ok (.dup, 1) := by decide +kernel
theorem dX10_addPoint_205 : decode cX10_addPoint 205 = .ok (.getfield 81, 3) := by decide +kernel
theorem dX10_addPoint_208 : decode cX10_addPoint 208 = .ok (.iconst 1, 1) := by decide +kernel
theorem dX10_addPoint_209 : decode cX10_addPoint 209 = .ok (.iadd, 1) := by decide +kernel
theorem dX10_addPoint_210 : decode cX10_addPoint 210 = .ok (.putfield 81, 3) := by decide +kernel
theorem dX10_addPoint_213 : decode cX10_addPoint 213 = .ok (.aload_n 0, 1) := by decide +kernel
theorem dX10_addPoint_214 : decode cX10_addPoint 214 = .ok (.getfield 81, 3) := by decide +kernel
theorem dX10_addPoint_217 : decode cX10_addPoint 217 = .ok (.iconst 1, 1) := by decide +kernel
theorem dX10_addPoint_218 : decode cX10_addPoint 218 = .ok (.isub, 1) := by decide +kernel
theorem dX10_addPoint_219 : decode cX10_addPoint 219 = .ok (.ireturn, 1) := by decide +kernel
theorem dX10_points_0 : decode cX10_points 0 = .ok (.aload_n 0, 1) := by decide +kernel
theorem dX10_points_1 : decode cX10_points 1 = .ok (.iconst 0, 1) := by decide +kernel
theorem dX10_points_2 : decode cX10_points 2 = .ok (.putfield 78, 3) := by decide +kernel
theorem dX10_points_5 : decode cX10_points 5 = .ok (.aload_n 0, 1) := by decide +kernel
theorem dX10_points_6 : decode cX10_points 6 = .ok (.getfield 81, 3) := by decide +kernel
theorem dX10_points_9 : decode cX10_points 9 = .ok (.ireturn, 1) := by decide +kernel
set_option maxRecDepth 20000 in
theorem ggX10_place_X10_isPoint : GoodIn wsX10_place wsX10_isPoint := goodIn_r _ [7, 8, 9, 10, 6, 11, 17, 18, 19, 20, 21, 22, 23, 24, 25, 26, 27, 28, 29, 30, 31, 32, 33, 34, 35, 36, 37, 38, 39, 40, 41, 42, 43, 44, 45, 46, 47, 48, 49, 50, 51] (by decide +kernel) (by decide +kernel)
set_option maxRecDepth 20000 in
theorem gX10_place_X10_isPoint : GoodIn wsX10_place (wsV RX10 111 RX10 yX10_isPoint wsX10_isPoint) := goodIn_app (goodIn_of _ (by decide +kernel)) ggX10_place_X10_isPoint
set_option maxRecDepth 20000 in
theorem ggX10_place_X10_can : GoodIn wsX10_place wsX10_can := goodIn_r _ [15, 16, 17, 18, 19, 20, 21, 22, 23, 24, 25, 26, 27, 28, 29, 30, 31, 32, 33, 34, 35, 36, 37, 38, 39, 40, 41, 42, 43, 44, 45, 46, 47, 48, 49, 50, 51] (by decide +kernel) (by decide +kernel)
set_option maxRecDepth 20000 in
theorem gX10_place_X10_can : GoodIn wsX10_place (wsV RX10 107 RX10 yX10_can wsX10_can) := goodIn_app (goodIn_of _ (by decide +kernel)) ggX10_place_X10_can
theorem dX10_place_0 : decode cX10_place 0 = .ok (.aload_n 0, 1) := by decide +kernel
theorem dX10_place_1 : decode cX10_place 1 = .ok (.aload_n 0, 1) := by decide +kernel
theorem dX10_place_2 : decode cX10_place 2 = .ok (.iload_n 1, 1) := by decide +kernel
theorem dX10_place_3 : decode cX10_place 3 = .ok (.invokevirtual 111, 3) := by decide +kernel
theorem dX10_place_6 : decode cX10_place 6 = .ok (.ifCond .eq 7, 3) := by decide +kernel
theorem dX10_place_9 : decode cX10_place 9 = .ok (.iconst 0, 1) := by decide +kernel
theorem dX10_place_10 : decode cX10_place 10 = .ok (.goto 4, 3) := by decide +kernel
theorem dX10_place_13 : decode cX10_place 13 = .ok (.iconst 1, 1) := by decide +kernel
theorem dX10_place_14 : decode cX10_place 14 = .ok (.invokevirtual 107, 3) := by decide +kernel
theorem dX10_place_17 : decode cX10_place 17 = .ok (.ifCond .eq 22, 3) := by decide +kernel
theorem dX10_place_20 : decode cX10_place 20 = .ok (.bipush 100, 2) := by decide +kernel
theorem dX10_place_22 : decode cX10_place 22 = .ok (.aload_n 0, 1) := by decide +kernel
theorem dX10_place_23 : decode cX10_place 23 = .ok (.getfield 22, 3) := by decide +kernel
theorem dX10_place_26 : decode cX10_place 26 = .ok (.iload_n 1, 1) := by decide +kernel
theorem dX10_place_27 : decode cX10_place 27 = .ok (.iaload, 1) := by decide +kernel
theorem dX10_place_28 : decode cX10_place 28 = .ok (.imul, 1) := by decide +kernel
theorem dX10_place_29 : decode cX10_place 29 = .ok (.aload_n 0, 1) := by decide +kernel
theorem dX10_place_30 : decode cX10_place 30 = .ok (.getfield 25, 3) := by decide +kernel
theorem dX10_place_33 : decode cX10_place 33 = .ok (.iload_n 1, 1) := by decide +kernel
theorem dX10_place_34 : decode cX10_place 34 = .ok (.iaload, 1) := by decide +kernel
theorem dX10_place_35 : decode cX10_place 35 = .ok (.iadd, 1) := by decide +kernel
theorem dX10_place_36 : decode cX10_place 36 = .ok (.goto 4, 3) := by decide +kernel
theorem dX10_place_39 : decode cX10_place 39 = .ok (.iconst 0, 1) := by decide +kernel
theorem dX10_place_40 : decode cX10_place 40 = .ok (.ireturn, 1) := by decide +kernel
set_option maxRecDepth 20000 in
theorem ggX10_spare_X10_userOf : GoodIn wsX10_spare wsX10_userOf := goodIn_r _ [6, 7, 8, 9, 10, 11, 12, 13, 5, 14, 15, 16, 17, 18, 19, 20, 21, 22, 23, 24, 25, 26, 27, 28, 29, 30, 31, 32, 33, 34, 35, 36, 37, 38, 39, 40, 41, 42, 43, 44, 45, 46, 47, 48, 49, 50, 51] (by decide +kernel) (by decide +kernel)
set_option maxRecDepth 20000 in
theorem gX10_spare_X10_userOf : GoodIn wsX10_spare (wsV RX10 92 RX10 yX10_userOf wsX10_userOf) := goodIn_app (goodIn_of _ (by decide +kernel)) ggX10_spare_X10_userOf
theorem dX10_spare_0 : decode cX10_spare 0 = .ok (.aload_n 0, 1) := by decide +kernel
theorem dX10_spare_1 : decode cX10_spare 1 = .ok (.iconst 0, 1) := by decide +kernel
theorem dX10_spare_2 : decode cX10_spare 2 = .ok (.putfield 78, 3) := by decide +kernel
theorem dX10_spare_5 : decode cX10_spare 5 = .ok (.iconst 0, 1) := by decide +kernel
theorem dX10_spare_6 : decode cX10_spare 6 = .ok (.istore_n 1, 1) := by decide +kernel
theorem dX10_spare_7 : decode cX10_spare 7 = .ok (.iconst 0, 1) := by decide +kernel
theorem dX10_spare_8 : decode cX10_spare 8 = .ok (.istore_n 2, 1) := by decide +kernel
theorem dX10_spare_9 : decode cX10_spare 9 = .ok (.iload_n 2, 1) := by decide +kernel
theorem dX10_spare_10 : decode cX10_spare 10 = .ok (.sipush 192, 3) := by decide +kernel
theorem dX10_spare_13 : decode cX10_spare 13 = .ok (.if_icmp .ge 33, 3) := by decide +kernel
theorem dX10_spare_16 : decode cX10_spare 16 = .ok (.iload_n 1, 1) := by decide +kernel
theorem dX10_spare_17 : decode cX10_spare 17 = .ok (.aload_n 0, 1) := by decide +kernel
theorem dX10_spare_18 : decode cX10_spare 18 = .ok (.iload_n 2, 1) := by decide +kernel
theorem dX10_spare_19 : decode cX10_spare 19 = .ok (.bipush 48, 2) := by decide +kernel
theorem dX10_spare_21 : decode cX10_spare 21 = .ok (.idiv, 1) := by decide +kernel
theorem dX10_spare_22 : decode cX10_spare 22 = .ok (.iload_n 2, 1) := by decide +kernel
theorem dX10_spare_23 : decode cX10_spare 23 = .ok (.bipush 48, 2) := by decide +kernel
theorem dX10_spare_25 : decode cX10_spare 25 = .ok (.irem, 1) := by decide +kernel
theorem dX10_spare_26 : decode cX10_spare 26 = .ok (.invokevirtual 92, 3) := by decide +kernel
theorem dX10_spare_29 : decode cX10_spare 29 = .ok (.iconst (-1), 1) := by decide +kernel
theorem dX10_spare_30 : decode cX10_spare 30 = .ok (.if_icmp .ne 7, 3) := by decide +kernel
theorem dX10_spare_33 : decode cX10_spare 33 = .ok (.iconst 1, 1) := by decide +kernel
theorem dX10_spare_34 : decode cX10_spare 34 = .ok (.goto 4, 3) := by decide +kernel
theorem dX10_spare_37 : decode cX10_spare 37 = .ok (.iconst 0, 1) := by decide +kernel
theorem dX10_spare_38 : decode cX10_spare 38 = .ok (.iadd, 1) := by decide +kernel
theorem dX10_spare_39 : decode cX10_spare 39 = .ok (.istore_n 1, 1) := by decide +kernel
theorem dX10_spare_40 : decode cX10_spare 40 = .ok (.iinc 2 1, 3) := by decide +kernel
theorem dX10_spare_43 : decode cX10_spare 43 = .ok (.goto (-34), 3) := by decide +kernel
theorem dX10_spare_46 : decode cX10_spare 46 = .ok (.iload_n 1, 1) := by decide +kernel
theorem dX10_spare_47 : decode cX10_spare 47 = .ok (.ireturn, 1) := by decide +kernel
set_option maxRecDepth 20000 in
theorem ggX10_put_X10_isPoint : GoodIn wsX10_put wsX10_isPoint := goodIn_r _ [8, 9, 10, 11, 7, 12, 18, 19, 20, 21, 22, 23, 24, 25, 26, 27, 28, 29, 30, 31, 32, 33, 34, 35, 36, 37, 38, 39, 40, 41, 42, 43, 44, 45, 46, 47, 48, 49, 50, 51, 52] (by decide +kernel) (by decide +kernel)
set_option maxRecDepth 20000 in
theorem gX10_put_X10_isPoint : GoodIn wsX10_put (wsV RX10 111 RX10 yX10_isPoint wsX10_isPoint) := goodIn_app (goodIn_of _ (by decide +kernel)) ggX10_put_X10_isPoint
set_option maxRecDepth 20000 in
theorem ggX10_put_X10_can : GoodIn wsX10_put wsX10_can := goodIn_r _ [16, 17, 18, 19, 20, 21, 22, 23, 24, 25, 26, 27, 28, 29, 30, 31, 32, 33, 34, 35, 36, 37, 38, 39, 40, 41, 42, 43, 44, 45, 46, 47, 48, 49, 50, 51, 52] (by decide +kernel) (by decide +kernel)
set_option maxRecDepth 20000 in
theorem gX10_put_X10_can : GoodIn wsX10_put (wsV RX10 107 RX10 yX10_can wsX10_can) := goodIn_app (goodIn_of _ (by decide +kernel)) ggX10_put_X10_can
set_option maxRecDepth 20000 in
theorem ggX10_put_X10_isIn : GoodIn wsX10_put wsX10_isIn := goodIn_r _ [12] (by decide +kernel) (by decide +kernel)
set_option maxRecDepth 20000 in
theorem gX10_put_X10_isIn : GoodIn wsX10_put (va_wsS RX10 84 yX10_isIn wsX10_isIn) := goodIn_app (goodIn_of _ (by decide +kernel)) ggX10_put_X10_isIn
theorem dX10_put_0 : decode cX10_put 0 = .ok (.aload_n 0, 1) := by decide +kernel
theorem dX10_put_1 : decode cX10_put 1 = .ok (.aload_n 0, 1) := by decide +kernel
theorem dX10_put_2 : decode cX10_put 2 = .ok (.iload_n 1, 1) := by decide +kernel
theorem dX10_put_3 : decode cX10_put 3 = .ok (.invokevirtual 111, 3) := by decide +kernel
theorem dX10_put_6 : decode cX10_put 6 = .ok (.ifCond .eq 7, 3) := by decide +kernel
theorem dX10_put_9 : decode cX10_put 9 = .ok (.iconst 0, 1) := by decide +kernel
theorem dX10_put_10 : decode cX10_put 10 = .ok (.goto 4, 3) := by decide +kernel
theorem dX10_put_13 : decode cX10_put 13 = .ok (.iconst 1, 1) := by decide +kernel
theorem dX10_put_14 : decode cX10_put 14 = .ok (.invokevirtual 107, 3) := by decide +kernel
theorem dX10_put_17 : decode cX10_put 17 = .ok (.ifCond .ne 5, 3) := by decide +kernel
theorem dX10_put_20 : decode cX10_put 20 = .ok (.iconst 0, 1) := by decide +kernel
theorem dX10_put_21 : decode cX10_put 21 = .ok (.ireturn, 1) := by decide +kernel
theorem dX10_put_22 : decode cX10_put 22 = .ok (.iconst 1, 1) := by decide +kernel
theorem dX10_put_23 : decode cX10_put 23 = .ok (.aload_n 0, 1) := by decide +kernel
theorem dX10_put_24 : decode cX10_put 24 = .ok (.getfield 7, 3) := by decide +kernel
theorem dX10_put_27 : decode cX10_put 27 = .ok (.iload_n 1, 1) := by decide +kernel
theorem dX10_put_28 : decode cX10_put 28 = .ok (.iaload, 1) := by decide +kernel
theorem dX10_put_29 : decode cX10_put 29 = .ok (.iconst 1, 1) := by decide +kernel
theorem dX10_put_30 : decode cX10_put 30 = .ok (.isub, 1) := by decide +kernel
theorem dX10_put_31 : decode cX10_put 31 = .ok (.ishl, 1) := by decide +kernel
theorem dX10_put_32 : decode cX10_put 32 = .ok (.istore_n 3, 1) := by decide +kernel
theorem dX10_put_33 : decode cX10_put 33 = .ok (.aload_n 0, 1) := by decide +kernel
theorem dX10_put_34 : decode cX10_put 34 = .ok (.getfield 13, 3) := by decide +kernel
theorem dX10_put_37 : decode cX10_put 37 = .ok (.iload_n 1, 1) := by decide +kernel
theorem dX10_put_38 : decode cX10_put 38 = .ok (.iaload, 1) := by decide +kernel
theorem dX10_put_39 : decode cX10_put 39 = .ok (.ifCond .ne 7, 3) := by decide +kernel
theorem dX10_put_42 : decode cX10_put 42 = .ok (.iconst 0, 1) := by decide +kernel
theorem dX10_put_43 : decode cX10_put 43 = .ok (.goto 21, 3) := by decide +kernel
theorem dX10_put_46 : decode cX10_put 46 = .ok (.aload_n 0, 1) := by decide +kernel
theorem dX10_put_47 : decode cX10_put 47 = .ok (.getfield 13, 3) := by decide +kernel
theorem dX10_put_50 : decode cX10_put 50 = .ok (.iload_n 1, 1) := by decide +kernel
theorem dX10_put_51 : decode cX10_put 51 = .ok (.iaload, 1) := by decide +kernel
theorem dX10_put_52 : decode cX10_put 52 = .ok (.iconst 2, 1) := by decide +kernel
theorem dX10_put_53 : decode cX10_put 53 = .ok (.if_icmp .ne 9, 3) := by decide +kernel
theorem dX10_put_56 : decode cX10_put 56 = .ok (.iconst 1, 1) := by decide +kernel
theorem dX10_put_57 : decode cX10_put 57 = .ok (.iload_n 3, 1) := by decide +kernel
theorem dX10_put_58 : decode cX10_put 58 = .ok (.isub, 1) := by decide +kernel
theorem dX10_put_59 : decode cX10_put 59 = .ok (.goto 5, 3) := by decide +kernel
theorem dX10_put_62 : decode cX10_put 62 = .ok (.iload_n 3, 1) := by decide +kernel
theorem dX10_put_63 : decode cX10_put 63 = .ok (.ineg, 1) := by decide +kernel
theorem dX10_put_64 : decode cX10_put 64 = .ok (.istore 4, 2) := by decide +kernel
theorem dX10_put_66 : decode cX10_put 66 = .ok (.aload_n 0, 1) := by decide +kernel
theorem dX10_put_67 : decode cX10_put 67 = .ok (.getfield 13, 3) := by decide +kernel
theorem dX10_put_70 : decode cX10_put 70 = .ok (.iload_n 1, 1) := by decide +kernel
theorem dX10_put_71 : decode cX10_put 71 = .ok (.iaload, 1) := by decide +kernel
theorem dX10_put_72 : decode cX10_put 72 = .ok (.ifCond .ne 11, 3) := by decide +kernel
theorem dX10_put_75 : decode cX10_put 75 = .ok (.iconst 2, 1) := by decide +kernel
theorem dX10_put_76 : decode cX10_put 76 = .ok (.iload_n 3, 1) := by decide +kernel
theorem dX10_put_77 : decode cX10_put 77 = .ok (.imul, 1) := by decide +kernel
theorem dX10_put_78 : decode cX10_put 78 = .ok (.iconst 1, 1) := by decide +kernel
theorem dX10_put_79 : decode cX10_put 79 = .ok (.isub, 1) := by decide +kernel
theorem dX10_put_80 : decode cX10_put 80 = .ok (.goto 6, 3) := by decide +kernel
theorem dX10_put_83 : decode cX10_put 83 = .ok (.iload_n 3, 1) := by decide +kernel
theorem dX10_put_84 : decode cX10_put 84 = .ok (.iconst 1, 1) := by decide +kernel
theorem dX10_put_85 : decode cX10_put 85 = .ok (.isub, 1) := by decide +kernel
theorem dX10_put_86 : decode cX10_put 86 = .ok (.istore 5, 2) := by decide +kernel
theorem dX10_put_88 : decode cX10_put 88 = .ok (.aload_n 0, 1) := by decide +kernel
theorem dX10_put_89 : decode cX10_put 89 = .ok (.iload_n 2, 1) := by decide +kernel
theorem dX10_put_90 : decode cX10_put 90 = .ok (.iload 4, 2) := by decide +kernel
theorem dX10_put_92 : decode cX10_put 92 = .ok (.iload 5, 2) := by decide +kernel
theorem dX10_put_94 : decode cX10_put 94 = .ok (.invokestatic 84, 3) := by decide +kernel
theorem dX10_put_97 : decode cX10_put 97 = .ok (.ifCond .eq 7, 3) := by decide +kernel
theorem dX10_put_100 : decode cX10_put 100 = .ok (.iconst 0, 1) := by decide +kernel
theorem dX10_put_101 : decode cX10_put 101 = .ok (.goto 4, 3) := by decide +kernel
theorem dX10_put_104 : decode cX10_put 104 = .ok (.iconst 2, 1) := by decide +kernel
theorem dX10_put_105 : decode cX10_put 105 = .ok (.invokevirtual 107, 3) := by decide +kernel
theorem dX10_put_108 : decode cX10_put 108 = .ok (.ifCond .ne 5, 3) := by decide +kernel
theorem dX10_put_111 : decode cX10_put 111 = .ok (.iconst 0, 1) := by decide +kernel
theorem dX10_put_112 : decode cX10_put 112 = .ok (.ireturn, 1) := by decide +kernel
theorem dX10_put_113 : decode cX10_put 113 = .ok (.aload_n 0, 1) := by decide +kernel
theorem dX10_put_114 : decode cX10_put 114 = .ok (.getfield 28, 3) := by decide +kernel
theorem dX10_put_117 : decode cX10_put 117 = .ok (.iload_n 1, 1) := by decide +kernel
theorem dX10_put_118 : decode cX10_put 118 = .ok (.iaload, 1) := by decide +kernel
theorem dX10_put_119 : decode cX10_put 119 = .ok (.istore 6, 2) := by decide +kernel
theorem dX10_put_121 : decode cX10_put 121 = .ok (.aload_n 0, 1) := by decide +kernel
theorem dX10_put_122 : decode cX10_put 122 = .ok (.getfield 28, 3) := by decide +kernel
theorem dX10_put_125 : decode cX10_put 125 = .ok (.iload_n 1, 1) := by decide +kernel
theorem dX10_put_126 : decode cX10_put 126 = .ok (.iload_n 2, 1) := by decide +kernel
theorem dX10_put_127 : decode cX10_put 127 = .ok (.iastore, 1) := by decide +kernel
theorem dX10_put_128 : decode cX10_put 128 = .ok (.iload 6, 2) := by decide +kernel
theorem dX10_put_130 : decode cX10_put 130 = .ok (.ireturn, 1) := by decide +kernel
theorem dX10_coded_0 : decode cX10_coded 0 = .ok (.iconst 1, 1) := by decide +kernel
theorem dX10_coded_1 : decode cX10_coded 1 = .ok (.aload_n 0, 1) := by decide +kernel
theorem dX10_coded_2 : decode cX10_coded 2 = .ok (.getfield 7, 3) := by decide +kernel
theorem dX10_coded_5 : decode cX10_coded 5 = .ok (.iload_n 1, 1) := by decide +kernel
theorem dX10_coded_6 : decode cX10_coded 6 = .ok (.iaload, 1) := by decide +kernel
theorem dX10_coded_7 : decode cX10_coded 7 = .ok (.iconst 1, 1) := by decide +kernel
theorem dX10_coded_8 : decode cX10_coded 8 = .ok (.isub, 1) := by decide +kernel
theorem dX10_coded_9 : decode cX10_coded 9 = .ok (.ishl, 1) := by decide +kernel
theorem dX10_coded_10 : decode cX10_coded 10 = .ok (.istore_n 3, 1) := by decide +kernel
theorem dX10_coded_11 : decode cX10_coded 11 = .ok (.aload_n 0, 1) := by decide +kernel
theorem dX10_coded_12 : decode cX10_coded 12 = .ok (.getfield 13, 3) := by decide +kernel
theorem dX10_coded_15 : decode cX10_coded 15 = .ok (.iload_n 1, 1) := by decide +kernel
theorem dX10_coded_16 : decode cX10_coded 16 = .ok (.iaload, 1) := by decide +kernel
theorem dX10_coded_17 : decode cX10_coded 17 = .ok (.iconst 1, 1) := by decide +kernel
theorem dX10_coded_18 : decode cX10_coded 18 = .ok (.if_icmp .ne 17, 3) := by decide +kernel
theorem dX10_coded_21 : decode cX10_coded 21 = .ok (.iload_n 2, 1) := by decide +kernel
theorem dX10_coded_22 : decode cX10_coded 22 = .ok (.ifCond .ge 11, 3) := by decide +kernel
theorem dX10_coded_25 : decode cX10_coded 25 = .ok (.iload_n 2, 1) := by decide +kernel
theorem dX10_coded_26 : decode cX10_coded 26 = .ok (.iconst 2, 1) := by decide +kernel
theorem dX10_coded_27 : decode cX10_coded 27 = .ok (.iload_n 3, 1) := by decide +kernel
theorem dX10_coded_28 : decode cX10_coded 28 = .ok (.imul, 1) := by decide +kernel
theorem dX10_coded_29 : decode cX10_coded 29 = .ok (.iadd, 1) := by decide +kernel
theorem dX10_coded_30 : decode cX10_coded 30 = .ok (.goto 4, 3) := by decide +kernel
theorem dX10_coded_33 : decode cX10_coded 33 = .ok (.iload_n 2, 1) := by decide +kernel
theorem dX10_coded_34 : decode cX10_coded 34 = .ok (.ireturn, 1) := by decide +kernel
theorem dX10_coded_35 : decode cX10_coded 35 = .ok (.aload_n 0, 1) := by decide +kernel
theorem dX10_coded_36 : decode cX10_coded 36 = .ok (.getfield 13, 3) := by decide +kernel
theorem dX10_coded_39 : decode cX10_coded 39 = .ok (.iload_n 1, 1) := by decide +kernel
theorem dX10_coded_40 : decode cX10_coded 40 = .ok (.iaload, 1) := by decide +kernel
theorem dX10_coded_41 : decode cX10_coded 41 = .ok (.iconst 2, 1) := by decide +kernel
theorem dX10_coded_42 : decode cX10_coded 42 = .ok (.if_icmp .ne 15, 3) := by decide +kernel
theorem dX10_coded_45 : decode cX10_coded 45 = .ok (.iload_n 2, 1) := by decide +kernel
theorem dX10_coded_46 : decode cX10_coded 46 = .ok (.ifCond .ge 9, 3) := by decide +kernel
theorem dX10_coded_49 : decode cX10_coded 49 = .ok (.iload_n 3, 1) := by decide +kernel
theorem dX10_coded_50 : decode cX10_coded 50 = .ok (.iload_n 2, 1) := by decide +kernel
theorem dX10_coded_51 : decode cX10_coded 51 = .ok (.isub, 1) := by decide +kernel
theorem dX10_coded_52 : decode cX10_coded 52 = .ok (.goto 4, 3) := by decide +kernel
theorem dX10_coded_55 : decode cX10_coded 55 = .ok (.iload_n 2, 1) := by decide +kernel
theorem dX10_coded_56 : decode cX10_coded 56 = .ok (.ireturn, 1) := by decide +kernel
theorem dX10_coded_57 : decode cX10_coded 57 = .ok (.aload_n 0, 1) := by decide +kernel
theorem dX10_coded_58 : decode cX10_coded 58 = .ok (.getfield 13, 3) := by decide +kernel
theorem dX10_coded_61 : decode cX10_coded 61 = .ok (.iload_n 1, 1) := by decide +kernel
theorem dX10_coded_62 : decode cX10_coded 62 = .ok (.iaload, 1) := by decide +kernel
theorem dX10_coded_63 : decode cX10_coded 63 = .ok (.iconst 3, 1) := by decide +kernel
theorem dX10_coded_64 : decode cX10_coded 64 = .ok (.if_icmp .ne 9, 3) := by decide +kernel
theorem dX10_coded_67 : decode cX10_coded 67 = .ok (.iload_n 2, 1) := by decide +kernel
theorem dX10_coded_68 : decode cX10_coded 68 = .ok (.iload_n 3, 1) := by decide +kernel
theorem dX10_coded_69 : decode cX10_coded 69 = .ok (.iadd, 1) := by decide +kernel
theorem dX10_coded_70 : decode cX10_coded 70 = .ok (.goto 4, 3) := by decide +kernel
theorem dX10_coded_73 : decode cX10_coded 73 = .ok (.iload_n 2, 1) := by decide +kernel
theorem dX10_coded_74 : decode cX10_coded 74 = .ok (.ireturn, 1) := by decide +kernel
theorem dX10_read_0 : decode cX10_read 0 = .ok (.iconst 1, 1) := by decide +kernel
theorem dX10_read_1 : decode cX10_read 1 = .ok (.aload_n 0, 1) := by decide +kernel
theorem dX10_read_2 : decode cX10_read 2 = .ok (.getfield 7, 3) := by decide +kernel
theorem dX10_read_5 : decode cX10_read 5 = .ok (.iload_n 1, 1) := by decide +kernel
theorem dX10_read_6 : decode cX10_read 6 = .ok (.iaload, 1) := by decide +kernel
theorem dX10_read_7 : decode cX10_read 7 = .ok (.iconst 1, 1) := by decide +kernel
theorem dX10_read_8 : decode cX10_read 8 = .ok (.isub, 1) := by decide +kernel
theorem dX10_read_9 : decode cX10_read 9 = .ok (.ishl, 1) := by decide +kernel
theorem dX10_read_10 : decode cX10_read 10 = .ok (.istore_n 3, 1) := by decide +kernel
theorem dX10_read_11 : decode cX10_read 11 = .ok (.aload_n 0, 1) := by decide +kernel
theorem dX10_read_12 : decode cX10_read 12 = .ok (.getfield 13, 3) := by decide +kernel
theorem dX10_read_15 : decode cX10_read 15 = .ok (.iload_n 1, 1) := by decide +kernel
theorem dX10_read_16 : decode cX10_read 16 = .ok (.iaload, 1) := by decide +kernel
theorem dX10_read_17 : decode cX10_read 17 = .ok (.iconst 1, 1) := by decide +kernel
theorem dX10_read_18 : decode cX10_read 18 = .ok (.if_icmp .ne 18, 3) := by decide +kernel
theorem dX10_read_21 : decode cX10_read 21 = .ok (.iload_n 2, 1) := by decide +kernel
theorem dX10_read_22 : decode cX10_read 22 = .ok (.iload_n 3, 1) := by decide +kernel
theorem dX10_read_23 : decode cX10_read 23 = .ok (.if_icmp .lt 11, 3) := by decide +kernel
theorem dX10_read_26 : decode cX10_read 26 = .ok (.iload_n 2, 1) := by decide +kernel
theorem dX10_read_27 : decode cX10_read 27 = .ok (.iconst 2, 1) := by decide +kernel
theorem dX10_read_28 : decode cX10_read 28 = .ok (.iload_n 3, 1) := by decide +kernel
theorem dX10_read_29 : decode cX10_read 29 = .ok (.imul, 1) := by decide +kernel
theorem dX10_read_30 : decode cX10_read 30 = .ok (.isub, 1) := by decide +kernel
theorem dX10_read_31 : decode cX10_read 31 = .ok (.goto 4, 3) := by decide +kernel
theorem dX10_read_34 : decode cX10_read 34 = .ok (.iload_n 2, 1) := by decide +kernel
theorem dX10_read_35 : decode cX10_read 35 = .ok (.ireturn, 1) := by decide +kernel
theorem dX10_read_36 : decode cX10_read 36 = .ok (.aload_n 0, 1) := by decide +kernel
theorem dX10_read_37 : decode cX10_read 37 = .ok (.getfield 13, 3) := by decide +kernel
theorem dX10_read_40 : decode cX10_read 40 = .ok (.iload_n 1, 1) := by decide +kernel
theorem dX10_read_41 : decode cX10_read 41 = .ok (.iaload, 1) := by decide +kernel
theorem dX10_read_42 : decode cX10_read 42 = .ok (.iconst 2, 1) := by decide +kernel
theorem dX10_read_43 : decode cX10_read 43 = .ok (.if_icmp .ne 16, 3) := by decide +kernel
theorem dX10_read_46 : decode cX10_read 46 = .ok (.iload_n 2, 1) := by decide +kernel
theorem dX10_read_47 : decode cX10_read 47 = .ok (.iload_n 3, 1) := by decide +kernel
theorem dX10_read_48 : decode cX10_read 48 = .ok (.if_icmp .lt 9, 3) := by decide +kernel
theorem dX10_read_51 : decode cX10_read 51 = .ok (.iload_n 3, 1) := by decide +kernel
theorem dX10_read_52 : decode cX10_read 52 = .ok (.iload_n 2, 1) := by decide +kernel
theorem dX10_read_53 : decode cX10_read 53 = .ok (.isub, 1) := by decide +kernel
theorem dX10_read_54 : decode cX10_read 54 = .ok (.goto 4, 3) := by decide +kernel
theorem dX10_read_57 : decode cX10_read 57 = .ok (.iload_n 2, 1) := by decide +kernel
theorem dX10_read_58 : decode cX10_read 58 = .ok (.ireturn, 1) := by decide +kernel
theorem dX10_read_59 : decode cX10_read 59 = .ok (.aload_n 0, 1) := by decide +kernel
theorem dX10_read_60 : decode cX10_read 60 = .ok (.getfield 13, 3) := by decide +kernel
theorem dX10_read_63 : decode cX10_read 63 = .ok (.iload_n 1, 1) := by decide +kernel
theorem dX10_read_64 : decode cX10_read 64 = .ok (.iaload, 1) := by decide +kernel
theorem dX10_read_65 : decode cX10_read 65 = .ok (.iconst 3, 1) := by decide +kernel
theorem dX10_read_66 : decode cX10_read 66 = .ok (.if_icmp .ne 9, 3) := by decide +kernel
theorem dX10_read_69 : decode cX10_read 69 = .ok (.iload_n 2, 1) := by decide +kernel
theorem dX10_read_70 : decode cX10_read 70 = .ok (.iload_n 3, 1) := by decide +kernel
theorem dX10_read_71 : decode cX10_read 71 = .ok (.isub, 1) := by decide +kernel
theorem dX10_read_72 : decode cX10_read 72 = .ok (.goto 4, 3) := by decide +kernel
theorem dX10_read_75 : decode cX10_read 75 = .ok (.iload_n 2, 1) := by decide +kernel
theorem dX10_read_76 : decode cX10_read 76 = .ok (.ireturn, 1) := by decide +kernel
set_option maxRecDepth 20000 in
theorem ggX10_sendWord_X10_isSent : GoodIn wsX10_sendWord wsX10_isSent := goodIn_r _ [14, 15, 16, 26, 27, 28, 29, 30, 31, 32, 33, 34, 35, 36, 37, 38, 39, 40, 41, 42, 43, 44, 45, 46, 47, 48, 49, 50, 51, 52, 53, 54, 55, 56, 57, 58, 59, 60] (by decide +kernel) (by decide +kernel)
set_option maxRecDepth 20000 in
theorem gX10_sendWord_X10_isSent : GoodIn wsX10_sendWord (wsV RX10 88 RX10 yX10_isSent wsX10_isSent) := goodIn_app (goodIn_of _ (by decide +kernel)) ggX10_sendWord_X10_isSent
set_option maxRecDepth 20000 in
theorem ggX10_sendWord_X10_coded : GoodIn wsX10_sendWord wsX10_coded := goodIn_r _ [20, 7, 21, 26, 27, 28, 29, 30, 31, 32, 33, 34, 35, 36, 37, 38, 39, 40, 41, 42, 43, 44, 45, 46, 47, 48, 49, 50, 51, 52, 53, 54, 55, 56, 57, 58, 59, 60] (by decide +kernel) (by decide +kernel)
set_option maxRecDepth 20000 in
theorem gX10_sendWord_X10_coded : GoodIn wsX10_sendWord (wsV RX10 114 RX10 yX10_coded wsX10_coded) := goodIn_app (goodIn_of _ (by decide +kernel)) ggX10_sendWord_X10_coded
set_option maxRecDepth 20000 in
theorem ggX10_sendWord_X10_userOf : GoodIn wsX10_sendWord wsX10_userOf := goodIn_r _ [25, 2, 4, 7, 3, 10, 11, 12, 13, 14, 15, 16, 26, 27, 28, 29, 30, 31, 32, 33, 34, 35, 36, 37, 38, 39, 40, 41, 42, 43, 44, 45, 46, 47, 48, 49, 50, 51, 52, 53, 54, 55, 56, 57, 58, 59, 60] (by decide +kernel) (by decide +kernel)
set_option maxRecDepth 20000 in
theorem gX10_sendWord_X10_userOf : GoodIn wsX10_sendWord (wsV RX10 92 RX10 yX10_userOf wsX10_userOf) := goodIn_app (goodIn_of _ (by decide +kernel)) ggX10_sendWord_X10_userOf
theorem dX10_sendWord_0 : decode cX10_sendWord 0 = .ok (.aload_n 0, 1) := by decide +kernel
theorem dX10_sendWord_1 : decode cX10_sendWord 1 = .ok (.getfield 104, 3) := by decide +kernel
theorem dX10_sendWord_4 : decode cX10_sendWord 4 = .ok (.bipush 8, 2) := by decide +kernel
theorem dX10_sendWord_6 : decode cX10_sendWord 6 = .ok (.irem, 1) := by decide +kernel
theorem dX10_sendWord_7 : decode cX10_sendWord 7 = .ok (.istore_n 1, 1) := by decide +kernel
theorem dX10_sendWord_8 : decode cX10_sendWord 8 = .ok (.aload_n 0, 1) := by decide +kernel
theorem dX10_sendWord_9 : decode cX10_sendWord 9 = .ok (.getfield 104, 3) := by decide +kernel
theorem dX10_sendWord_12 : decode cX10_sendWord 12 = .ok (.bipush 8, 2) := by decide +kernel
theorem dX10_sendWord_14 : decode cX10_sendWord 14 = .ok (.idiv, 1) := by decide +kernel
theorem dX10_sendWord_15 : decode cX10_sendWord 15 = .ok (.sipush 256, 3) := by decide +kernel
theorem dX10_sendWord_18 : decode cX10_sendWord 18 = .ok (.irem, 1) := by decide +kernel
theorem dX10_sendWord_19 : decode cX10_sendWord 19 = .ok (.istore_n 2, 1) := by decide +kernel
theorem dX10_sendWord_20 : decode cX10_sendWord 20 = .ok (.iconst 0, 1) := by decide +kernel
theorem dX10_sendWord_21 : decode cX10_sendWord 21 = .ok (.istore_n 3, 1) := by decide +kernel
theorem dX10_sendWord_22 : decode cX10_sendWord 22 = .ok (.iload_n 3, 1) := by decide +kernel
theorem dX10_sendWord_23 : decode cX10_sendWord 23 = .ok (.aload_n 0, 1) := by decide +kernel
theorem dX10_sendWord_24 : decode cX10_sendWord 24 = .ok (.getfield 81, 3) := by decide +kernel
theorem dX10_sendWord_27 : decode cX10_sendWord 27 = .ok (.if_icmp .ge 82, 3) := by decide +kernel
theorem dX10_sendWord_30 : decode cX10_sendWord 30 = .ok (.iconst 0, 1) := by decide +kernel
theorem dX10_sendWord_31 : decode cX10_sendWord 31 = .ok (.istore 4, 2) := by decide +kernel
theorem dX10_sendWord_33 : decode cX10_sendWord 33 = .ok (.iload 4, 2) := by decide +kernel
theorem dX10_sendWord_35 : decode cX10_sendWord 35 = .ok (.aload_n 0, 1) := by decide +kernel
theorem dX10_sendWord_36 : decode cX10_sendWord 36 = .ok (.getfield 19, 3) := by decide +kernel
theorem dX10_sendWord_39 : decode cX10_sendWord 39 = .ok (.iload_n 3, 1) := by decide +kernel
theorem dX10_sendWord_40 : decode cX10_sendWord 40 = .ok (.iaload, 1) := by decide +kernel
theorem dX10_sendWord_41 : decode cX10_sendWord 41 = .ok (.if_icmp .ge 62, 3) := by decide +kernel
theorem dX10_sendWord_44 : decode cX10_sendWord 44 = .ok (.aload_n 0, 1) := by decide +kernel
theorem dX10_sendWord_45 : decode cX10_sendWord 45 = .ok (.iload_n 3, 1) := by decide +kernel
theorem dX10_sendWord_46 : decode cX10_sendWord 46 = .ok (.iload_n 2, 1) := by decide +kernel
theorem dX10_sendWord_47 : decode cX10_sendWord 47 = .ok (.invokevirtual 88, 3) := by decide +kernel
theorem dX10_sendWord_50 : decode cX10_sendWord 50 = .ok (.ifCond .eq 47, 3) := by decide +kernel
theorem dX10_sendWord_53 : decode cX10_sendWord 53 = .ok (.bipush 16, 2) := by decide +kernel
theorem dX10_sendWord_55 : decode cX10_sendWord 55 = .ok (.aload_n 0, 1) := by decide +kernel
theorem dX10_sendWord_56 : decode cX10_sendWord 56 = .ok (.getfield 25, 3) := by decide +kernel
theorem dX10_sendWord_59 : decode cX10_sendWord 59 = .ok (.iload_n 3, 1) := by decide +kernel
theorem dX10_sendWord_60 : decode cX10_sendWord 60 = .ok (.iaload, 1) := by decide +kernel
theorem dX10_sendWord_61 : decode cX10_sendWord 61 = .ok (.iadd, 1) := by decide +kernel
theorem dX10_sendWord_62 : decode cX10_sendWord 62 = .ok (.bipush 24, 2) := by decide +kernel
theorem dX10_sendWord_64 : decode cX10_sendWord 64 = .ok (.iload 4, 2) := by decide +kernel
theorem dX10_sendWord_66 : decode cX10_sendWord 66 = .ok (.imul, 1) := by decide +kernel
theorem dX10_sendWord_67 : decode cX10_sendWord 67 = .ok (.iadd, 1) := by decide +kernel
theorem dX10_sendWord_68 : decode cX10_sendWord 68 = .ok (.bipush 8, 2) := by decide +kernel
theorem dX10_sendWord_70 : decode cX10_sendWord 70 = .ok (.idiv, 1) := by decide +kernel
theorem dX10_sendWord_71 : decode cX10_sendWord 71 = .ok (.iload_n 1, 1) := by decide +kernel
theorem dX10_sendWord_72 : decode cX10_sendWord 72 = .ok (.if_icmp .ne 25, 3) := by decide +kernel
theorem dX10_sendWord_75 : decode cX10_sendWord 75 = .ok (.aload_n 0, 1) := by decide +kernel
theorem dX10_sendWord_76 : decode cX10_sendWord 76 = .ok (.getfield 31, 3) := by decide +kernel
theorem dX10_sendWord_79 : decode cX10_sendWord 79 = .ok (.iconst 2, 1) := by decide +kernel
theorem dX10_sendWord_80 : decode cX10_sendWord 80 = .ok (.iload_n 3, 1) := by decide +kernel
theorem dX10_sendWord_81 : decode cX10_sendWord 81 = .ok (.imul, 1) := by decide +kernel
theorem dX10_sendWord_82 : decode cX10_sendWord 82 = .ok (.iload 4, 2) := by decide +kernel
theorem dX10_sendWord_84 : decode cX10_sendWord 84 = .ok (.iadd, 1) := by decide +kernel
theorem dX10_sendWord_85 : decode cX10_sendWord 85 = .ok (.aload_n 0, 1) := by decide +kernel
theorem dX10_sendWord_86 : decode cX10_sendWord 86 = .ok (.iload_n 3, 1) := by decide +kernel
theorem dX10_sendWord_87 : decode cX10_sendWord 87 = .ok (.aload_n 0, 1) := by decide +kernel
theorem dX10_sendWord_88 : decode cX10_sendWord 88 = .ok (.getfield 28, 3) := by decide +kernel
theorem dX10_sendWord_91 : decode cX10_sendWord 91 = .ok (.iload_n 3, 1) := by decide +kernel
theorem dX10_sendWord_92 : decode cX10_sendWord 92 = .ok (.iaload, 1) := by decide +kernel
theorem dX10_sendWord_93 : decode cX10_sendWord 93 = .ok (.invokevirtual 114, 3) := by decide +kernel
theorem dX10_sendWord_96 : decode cX10_sendWord 96 = .ok (.iastore, 1) := by decide +kernel
theorem dX10_sendWord_97 : decode cX10_sendWord 97 = .ok (.iinc 4 1, 3) := by decide +kernel
theorem dX10_sendWord_100 : decode cX10_sendWord 100 = .ok (.goto (-67), 3) := by decide +kernel
theorem dX10_sendWord_103 : decode cX10_sendWord 103 = .ok (.iinc 3 1, 3) := by decide +kernel
theorem dX10_sendWord_106 : decode cX10_sendWord 106 = .ok (.goto (-84), 3) := by decide +kernel
theorem dX10_sendWord_109 : decode cX10_sendWord 109 = .ok (.bipush 8, 2) := by decide +kernel
theorem dX10_sendWord_111 : decode cX10_sendWord 111 = .ok (.iload_n 1, 1) := by decide +kernel
theorem dX10_sendWord_112 : decode cX10_sendWord 112 = .ok (.imul, 1) := by decide +kernel
theorem dX10_sendWord_113 : decode cX10_sendWord 113 = .ok (.istore_n 3, 1) := by decide +kernel
theorem dX10_sendWord_114 : decode cX10_sendWord 114 = .ok (.iload_n 3, 1) := by decide +kernel
theorem dX10_sendWord_115 : decode cX10_sendWord 115 = .ok (.bipush 8, 2) := by decide +kernel
theorem dX10_sendWord_117 : decode cX10_sendWord 117 = .ok (.iload_n 1, 1) := by decide +kernel
theorem dX10_sendWord_118 : decode cX10_sendWord 118 = .ok (.imul, 1) := by decide +kernel
theorem dX10_sendWord_119 : decode cX10_sendWord 119 = .ok (.bipush 8, 2) := by decide +kernel
theorem dX10_sendWord_121 : decode cX10_sendWord 121 = .ok (.iadd, 1) := by decide +kernel
theorem dX10_sendWord_122 : decode cX10_sendWord 122 = .ok (.if_icmp .ge 164, 3) := by decide +kernel
theorem dX10_sendWord_125 : decode cX10_sendWord 125 = .ok (.iload_n 1, 1) := by decide +kernel
theorem dX10_sendWord_126 : decode cX10_sendWord 126 = .ok (.ifCond .ne 16, 3) := by decide +kernel
theorem dX10_sendWord_129 : decode cX10_sendWord 129 = .ok (.sipush 184, 3) := by decide +kernel
theorem dX10_sendWord_132 : decode cX10_sendWord 132 = .ok (.bipush 7, 2) := by decide +kernel
theorem dX10_sendWord_134 : decode cX10_sendWord 134 = .ok (.iload_n 3, 1) := by decide +kernel
theorem dX10_sendWord_135 : decode cX10_sendWord 135 = .ok (.isub, 1) := by decide +kernel
theorem dX10_sendWord_136 : decode cX10_sendWord 136 = .ok (.ishr, 1) := by decide +kernel
theorem dX10_sendWord_137 : decode cX10_sendWord 137 = .ok (.iconst 1, 1) := by decide +kernel
theorem dX10_sendWord_138 : decode cX10_sendWord 138 = .ok (.iand, 1) := by decide +kernel
theorem dX10_sendWord_139 : decode cX10_sendWord 139 = .ok (.goto 20, 3) := by decide +kernel
theorem dX10_sendWord_142 : decode cX10_sendWord 142 = .ok (.iload_n 1, 1) := by decide +kernel
theorem dX10_sendWord_143 : decode cX10_sendWord 143 = .ok (.iconst 1, 1) := by decide +kernel
theorem dX10_sendWord_144 : decode cX10_sendWord 144 = .ok (.if_icmp .ne 14, 3) := by decide +kernel
theorem dX10_sendWord_147 : decode cX10_sendWord 147 = .ok (.iload_n 2, 1) := by decide +kernel
theorem dX10_sendWord_148 : decode cX10_sendWord 148 = .ok (.bipush 15, 2) := by decide +kernel
theorem dX10_sendWord_150 : decode cX10_sendWord 150 = .ok (.iload_n 3, 1) := by decide +kernel
theorem dX10_sendWord_151 : decode cX10_sendWord 151 = .ok (.isub, 1) := by decide +kernel
theorem dX10_sendWord_152 : decode cX10_sendWord 152 = .ok (.ishr, 1) := by decide +kernel
theorem dX10_sendWord_153 : decode cX10_sendWord 153 = .ok (.iconst 1, 1) := by decide +kernel
theorem dX10_sendWord_154 : decode cX10_sendWord 154 = .ok (.iand, 1) := by decide +kernel
theorem dX10_sendWord_155 : decode cX10_sendWord 155 = .ok (.goto 4, 3) := by decide +kernel
theorem dX10_sendWord_158 : decode cX10_sendWord 158 = .ok (.iconst 0, 1) := by decide +kernel
theorem dX10_sendWord_159 : decode cX10_sendWord 159 = .ok (.istore 4, 2) := by decide +kernel
theorem dX10_sendWord_161 : decode cX10_sendWord 161 = .ok (.iload_n 1, 1) := by decide +kernel
theorem dX10_sendWord_162 : decode cX10_sendWord 162 = .ok (.iconst 2, 1) := by decide +kernel
theorem dX10_sendWord_163 : decode cX10_sendWord 163 = .ok (.if_icmp .ge 7, 3) := by decide +kernel
theorem dX10_sendWord_166 : decode cX10_sendWord 166 = .ok (.iconst (-1), 1) := by decide +kernel
theorem dX10_sendWord_167 : decode cX10_sendWord 167 = .ok (.goto 12, 3) := by decide +kernel
theorem dX10_sendWord_170 : decode cX10_sendWord 170 = .ok (.aload_n 0, 1) := by decide +kernel
theorem dX10_sendWord_171 : decode cX10_sendWord 171 = .ok (.iload_n 2, 1) := by decide +kernel
theorem dX10_sendWord_172 : decode cX10_sendWord 172 = .ok (.iload_n 3, 1) := by decide +kernel
theorem dX10_sendWord_173 : decode cX10_sendWord 173 = .ok (.bipush 16, 2) := by decide +kernel
theorem dX10_sendWord_175 : decode cX10_sendWord 175 = .ok (.isub, 1) := by decide +kernel
theorem dX10_sendWord_176 : decode cX10_sendWord 176 = .ok (.invokevirtual 92, 3) := by decide +kernel
theorem dX10_sendWord_179 : decode cX10_sendWord 179 = .ok (.istore 5, 2) := by decide +kernel
theorem dX10_sendWord_181 : decode cX10_sendWord 181 = .ok (.iload 5, 2) := by decide +kernel
theorem dX10_sendWord_183 : decode cX10_sendWord 183 = .ok (.iconst (-1), 1) := by decide +kernel
theorem dX10_sendWord_184 : decode cX10_sendWord 184 = .ok (.if_icmp .eq 75, 3) := by decide +kernel
theorem dX10_sendWord_187 : decode cX10_sendWord 187 = .ok (.aload_n 0, 1) := by decide +kernel
theorem dX10_sendWord_188 : decode cX10_sendWord 188 = .ok (.getfield 19, 3) := by decide +kernel
theorem dX10_sendWord_191 : decode cX10_sendWord 191 = .ok (.iload 5, 2) := by decide +kernel
theorem dX10_sendWord_193 : decode cX10_sendWord 193 = .ok (.iaload, 1) := by decide +kernel
theorem dX10_sendWord_194 : decode cX10_sendWord 194 = .ok (.iconst 2, 1) := by decide +kernel
theorem dX10_sendWord_195 : decode cX10_sendWord 195 = .ok (.if_icmp .ne 16, 3) := by decide +kernel
theorem dX10_sendWord_198 : decode cX10_sendWord 198 = .ok (.iload_n 3, 1) := by decide +kernel
theorem dX10_sendWord_199 : decode cX10_sendWord 199 = .ok (.bipush 16, 2) := by decide +kernel
theorem dX10_sendWord_201 : decode cX10_sendWord 201 = .ok (.isub, 1) := by decide +kernel
theorem dX10_sendWord_202 : decode cX10_sendWord 202 = .ok (.bipush 24, 2) := by decide +kernel
theorem dX10_sendWord_204 : decode cX10_sendWord 204 = .ok (.if_icmp .lt 7, 3) := by decide +kernel
theorem dX10_sendWord_207 : decode cX10_sendWord 207 = .ok (.iconst 1, 1) := by decide +kernel
theorem dX10_sendWord_208 : decode cX10_sendWord 208 = .ok (.goto 4, 3) := by decide +kernel
theorem dX10_sendWord_211 : decode cX10_sendWord 211 = .ok (.iconst 0, 1) := by decide +kernel
theorem dX10_sendWord_212 : decode cX10_sendWord 212 = .ok (.istore 6, 2) := by decide +kernel
theorem dX10_sendWord_214 : decode cX10_sendWord 214 = .ok (.aload_n 0, 1) := by decide +kernel
theorem dX10_sendWord_215 : decode cX10_sendWord 215 = .ok (.getfield 31, 3) := by decide +kernel
theorem dX10_sendWord_218 : decode cX10_sendWord 218 = .ok (.iconst 2, 1) := by decide +kernel
theorem dX10_sendWord_219 : decode cX10_sendWord 219 = .ok (.iload 5, 2) := by decide +kernel
theorem dX10_sendWord_221 : decode cX10_sendWord 221 = .ok (.imul, 1) := by decide +kernel
theorem dX10_sendWord_222 : decode cX10_sendWord 222 = .ok (.iload 6, 2) := by decide +kernel
theorem dX10_sendWord_224 : decode cX10_sendWord 224 = .ok (.iadd, 1) := by decide +kernel
theorem dX10_sendWord_225 : decode cX10_sendWord 225 = .ok (.iaload, 1) := by decide +kernel
theorem dX10_sendWord_226 : decode cX10_sendWord 226 = .ok (.aload_n 0, 1) := by decide +kernel
theorem dX10_sendWord_227 : decode cX10_sendWord 227 = .ok (.getfield 7, 3) := by decide +kernel
theorem dX10_sendWord_230 : decode cX10_sendWord 230 = .ok (.iload 5, 2) := by decide +kernel
theorem dX10_sendWord_232 : decode cX10_sendWord 232 = .ok (.iaload, 1) := by decide +kernel
theorem dX10_sendWord_233 : decode cX10_sendWord 233 = .ok (.iconst 1, 1) := by decide +kernel
theorem dX10_sendWord_234 : decode cX10_sendWord 234 = .ok (.isub, 1) := by decide +kernel
end
section
theorem dX10_sendWord_235 : decode cX10_sendWord 235 = .ok (.iload_n 3, 1) := by decide +kernel
theorem dX10_sendWord_236 : decode cX10_sendWord 236 = .ok (.bipush 16, 2) := by decide +kernel
theorem dX10_sendWord_238 : decode cX10_sendWord 238 = .ok (.isub, 1) := by decide +kernel
theorem dX10_sendWord_239 : decode cX10_sendWord 239 = .ok (.bipush 24, 2) := by decide +kernel
theorem dX10_sendWord_241 : decode cX10_sendWord 241 = .ok (.iload 6, 2) := by decide +kernel
theorem dX10_sendWord_243 : decode cX10_sendWord 243 = .ok (.imul, 1) := by decide +kernel
theorem dX10_sendWord_244 : decode cX10_sendWord 244 = .ok (.isub, 1) := by decide +kernel
theorem dX10_sendWord_245 : decode cX10_sendWord 245 = .ok (.aload_n 0, 1) := by decide +kernel
theorem dX10_sendWord_246 : decode cX10_sendWord 246 = .ok (.getfield 25, 3) := by decide +kernel
theorem dX10_sendWord_249 : decode cX10_sendWord 249 = .ok (.iload 5, 2) := by decide +kernel
theorem dX10_sendWord_251 : decode cX10_sendWord 251 = .ok (.iaload, 1) := by decide +kernel
theorem dX10_sendWord_252 : decode cX10_sendWord 252 = .ok (.isub, 1) := by decide +kernel
theorem dX10_sendWord_253 : decode cX10_sendWord 253 = .ok (.isub, 1) := by decide +kernel
theorem dX10_sendWord_254 : decode cX10_sendWord 254 = .ok (.ishr, 1) := by decide +kernel
theorem dX10_sendWord_255 : decode cX10_sendWord 255 = .ok (.iconst 1, 1) := by decide +kernel
theorem dX10_sendWord_256 : decode cX10_sendWord 256 = .ok (.iand, 1) := by decide +kernel
theorem dX10_sendWord_257 : decode cX10_sendWord 257 = .ok (.istore 4, 2) := by decide +kernel
theorem dX10_sendWord_259 : decode cX10_sendWord 259 = .ok (.aload_n 0, 1) := by decide +kernel
theorem dX10_sendWord_260 : decode cX10_sendWord 260 = .ok (.getfield 34, 3) := by decide +kernel
theorem dX10_sendWord_263 : decode cX10_sendWord 263 = .ok (.aload_n 0, 1) := by decide +kernel
theorem dX10_sendWord_264 : decode cX10_sendWord 264 = .ok (.getfield 117, 3) := by decide +kernel
theorem dX10_sendWord_267 : decode cX10_sendWord 267 = .ok (.iload 4, 2) := by decide +kernel
theorem dX10_sendWord_269 : decode cX10_sendWord 269 = .ok (.iastore, 1) := by decide +kernel
theorem dX10_sendWord_270 : decode cX10_sendWord 270 = .ok (.aload_n 0, 1) := by decide +kernel
theorem dX10_sendWord_271 : decode cX10_sendWord 271 = .ok (.dup, 1) := by decide +kernel
theorem dX10_sendWord_272 : decode cX10_sendWord 272 = .ok (.getfield 117, 3) := by decide +kernel
theorem dX10_sendWord_275 : decode cX10_sendWord 275 = .ok (.iconst 1, 1) := by decide +kernel
theorem dX10_sendWord_276 : decode cX10_sendWord 276 = .ok (.iadd, 1) := by decide +kernel
theorem dX10_sendWord_277 : decode cX10_sendWord 277 = .ok (.putfield 117, 3) := by decide +kernel
theorem dX10_sendWord_280 : decode cX10_sendWord 280 = .ok (.iinc 3 1, 3) := by decide +kernel
theorem dX10_sendWord_283 : decode cX10_sendWord 283 = .ok (.goto (-169), 3) := by decide +kernel
theorem dX10_sendWord_286 : decode cX10_sendWord 286 = .ok (.aload_n 0, 1) := by decide +kernel
theorem dX10_sendWord_287 : decode cX10_sendWord 287 = .ok (.dup, 1) := by decide +kernel
theorem dX10_sendWord_288 : decode cX10_sendWord 288 = .ok (.getfield 104, 3) := by decide +kernel
theorem dX10_sendWord_291 : decode cX10_sendWord 291 = .ok (.iconst 1, 1) := by decide +kernel
theorem dX10_sendWord_292 : decode cX10_sendWord 292 = .ok (.iadd, 1) := by decide +kernel
theorem dX10_sendWord_293 : decode cX10_sendWord 293 = .ok (.putfield 104, 3) := by decide +kernel
theorem dX10_sendWord_296 : decode cX10_sendWord 296 = .ok (.return_, 1) := by decide +kernel
set_option maxRecDepth 20000 in
theorem ggX10_send_X10_isIn : GoodIn wsX10_send wsX10_isIn := goodIn_r _ [6] (by decide +kernel) (by decide +kernel)
set_option maxRecDepth 20000 in
theorem gX10_send_X10_isIn : GoodIn wsX10_send (va_wsS RX10 84 yX10_isIn wsX10_isIn) := goodIn_app (goodIn_of _ (by decide +kernel)) ggX10_send_X10_isIn
set_option maxRecDepth 20000 in
theorem ggX10_send_X10_can : GoodIn wsX10_send wsX10_can := goodIn_r _ [10, 11, 38, 39, 40, 41, 42, 43, 44, 45, 46, 47, 48, 49, 50, 51, 52, 53, 54, 55, 56, 57, 58, 59, 60, 61, 62, 63, 64, 65, 66, 67, 68, 69, 70, 71, 72] (by decide +kernel) (by decide +kernel)
set_option maxRecDepth 20000 in
theorem gX10_send_X10_can : GoodIn wsX10_send (wsV RX10 107 RX10 yX10_can wsX10_can) := goodIn_app (goodIn_of _ (by decide +kernel)) ggX10_send_X10_can
set_option maxRecDepth 20000 in
theorem ggX10_send_X10_sendWord : GoodIn wsX10_send wsX10_sendWord := goodIn_r _ [15, 1, 16, 17, 18, 19, 20, 21, 22, 2, 23, 24, 25, 5, 26, 27, 28, 29, 30, 31, 32, 33, 34, 35, 36, 37, 38, 39, 40, 41, 42, 43, 44, 45, 46, 47, 48, 49, 50, 51, 52, 53, 54, 55, 56, 57, 58, 59, 60, 61, 62, 63, 64, 65, 66, 67, 68, 69, 70, 71, 72] (by decide +kernel) (by decide +kernel)
set_option maxRecDepth 20000 in
theorem gX10_send_X10_sendWord : GoodIn wsX10_send (wsV RX10 120 RX10 yX10_sendWord wsX10_sendWord) := goodIn_app (goodIn_of _ (by decide +kernel)) ggX10_send_X10_sendWord
theorem dX10_send_0 : decode cX10_send 0 = .ok (.aload_n 0, 1) := by decide +kernel
theorem dX10_send_1 : decode cX10_send 1 = .ok (.iload_n 1, 1) := by decide +kernel
theorem dX10_send_2 : decode cX10_send 2 = .ok (.iconst 1, 1) := by decide +kernel
theorem dX10_send_3 : decode cX10_send 3 = .ok (.bipush 64, 2) := by decide +kernel
theorem dX10_send_5 : decode cX10_send 5 = .ok (.invokestatic 84, 3) := by decide +kernel
theorem dX10_send_8 : decode cX10_send 8 = .ok (.ifCond .ne 7, 3) := by decide +kernel
theorem dX10_send_11 : decode cX10_send 11 = .ok (.iconst 1, 1) := by decide +kernel
theorem dX10_send_12 : decode cX10_send 12 = .ok (.goto 20, 3) := by decide +kernel
theorem dX10_send_15 : decode cX10_send 15 = .ok (.aload_n 0, 1) := by decide +kernel
theorem dX10_send_16 : decode cX10_send 16 = .ok (.getfield 104, 3) := by decide +kernel
theorem dX10_send_19 : decode cX10_send 19 = .ok (.iload_n 1, 1) := by decide +kernel
theorem dX10_send_20 : decode cX10_send 20 = .ok (.iadd, 1) := by decide +kernel
theorem dX10_send_21 : decode cX10_send 21 = .ok (.sipush 1000, 3) := by decide +kernel
theorem dX10_send_24 : decode cX10_send 24 = .ok (.if_icmp .le 7, 3) := by decide +kernel
theorem dX10_send_27 : decode cX10_send 27 = .ok (.iconst 2, 1) := by decide +kernel
theorem dX10_send_28 : decode cX10_send 28 = .ok (.goto 4, 3) := by decide +kernel
theorem dX10_send_31 : decode cX10_send 31 = .ok (.iconst 0, 1) := by decide +kernel
theorem dX10_send_32 : decode cX10_send 32 = .ok (.invokevirtual 107, 3) := by decide +kernel
theorem dX10_send_35 : decode cX10_send 35 = .ok (.ifCond .ne 5, 3) := by decide +kernel
theorem dX10_send_38 : decode cX10_send 38 = .ok (.iconst 0, 1) := by decide +kernel
theorem dX10_send_39 : decode cX10_send 39 = .ok (.ireturn, 1) := by decide +kernel
theorem dX10_send_40 : decode cX10_send 40 = .ok (.iconst 0, 1) := by decide +kernel
theorem dX10_send_41 : decode cX10_send 41 = .ok (.istore_n 2, 1) := by decide +kernel
theorem dX10_send_42 : decode cX10_send 42 = .ok (.iload_n 2, 1) := by decide +kernel
theorem dX10_send_43 : decode cX10_send 43 = .ok (.iload_n 1, 1) := by decide +kernel
theorem dX10_send_44 : decode cX10_send 44 = .ok (.if_icmp .ge 13, 3) := by decide +kernel
theorem dX10_send_47 : decode cX10_send 47 = .ok (.aload_n 0, 1) := by decide +kernel
theorem dX10_send_48 : decode cX10_send 48 = .ok (.invokevirtual 120, 3) := by decide +kernel
theorem dX10_send_51 : decode cX10_send 51 = .ok (.iinc 2 1, 3) := by decide +kernel
theorem dX10_send_54 : decode cX10_send 54 = .ok (.goto (-12), 3) := by decide +kernel
theorem dX10_send_57 : decode cX10_send 57 = .ok (.aload_n 0, 1) := by decide +kernel
theorem dX10_send_58 : decode cX10_send 58 = .ok (.getfield 117, 3) := by decide +kernel
theorem dX10_send_61 : decode cX10_send 61 = .ok (.ireturn, 1) := by decide +kernel
theorem dX10_sent_0 : decode cX10_sent 0 = .ok (.aload_n 0, 1) := by decide +kernel
theorem dX10_sent_1 : decode cX10_sent 1 = .ok (.iconst 0, 1) := by decide +kernel
theorem dX10_sent_2 : decode cX10_sent 2 = .ok (.putfield 78, 3) := by decide +kernel
theorem dX10_sent_5 : decode cX10_sent 5 = .ok (.aload_n 0, 1) := by decide +kernel
theorem dX10_sent_6 : decode cX10_sent 6 = .ok (.getfield 104, 3) := by decide +kernel
theorem dX10_sent_9 : decode cX10_sent 9 = .ok (.ireturn, 1) := by decide +kernel
theorem dX10_onLine_0 : decode cX10_onLine 0 = .ok (.aload_n 0, 1) := by decide +kernel
theorem dX10_onLine_1 : decode cX10_onLine 1 = .ok (.iconst 0, 1) := by decide +kernel
theorem dX10_onLine_2 : decode cX10_onLine 2 = .ok (.putfield 78, 3) := by decide +kernel
theorem dX10_onLine_5 : decode cX10_onLine 5 = .ok (.aload_n 0, 1) := by decide +kernel
theorem dX10_onLine_6 : decode cX10_onLine 6 = .ok (.getfield 117, 3) := by decide +kernel
theorem dX10_onLine_9 : decode cX10_onLine 9 = .ok (.ireturn, 1) := by decide +kernel
set_option maxRecDepth 20000 in
theorem ggX10_isBit_X10_isIn : GoodIn wsX10_isBit wsX10_isIn := goodIn_r _ [5] (by decide +kernel) (by decide +kernel)
set_option maxRecDepth 20000 in
theorem gX10_isBit_X10_isIn : GoodIn wsX10_isBit (va_wsS RX10 84 yX10_isIn wsX10_isIn) := goodIn_app (goodIn_of _ (by decide +kernel)) ggX10_isBit_X10_isIn
set_option maxRecDepth 20000 in
theorem ggX10_isBit_X10_can : GoodIn wsX10_isBit wsX10_can := goodIn_r _ [9, 10, 11, 12, 13, 14, 15, 16, 17, 18, 19, 20, 21, 22, 23, 24, 25, 26, 27, 28, 29, 30, 31, 32, 33, 34, 35, 36, 37, 38, 39, 40, 41, 42, 43, 44, 45] (by decide +kernel) (by decide +kernel)
set_option maxRecDepth 20000 in
theorem gX10_isBit_X10_can : GoodIn wsX10_isBit (wsV RX10 107 RX10 yX10_can wsX10_can) := goodIn_app (goodIn_of _ (by decide +kernel)) ggX10_isBit_X10_can
theorem dX10_isBit_0 : decode cX10_isBit 0 = .ok (.aload_n 0, 1) := by decide +kernel
theorem dX10_isBit_1 : decode cX10_isBit 1 = .ok (.iload_n 1, 1) := by decide +kernel
theorem dX10_isBit_2 : decode cX10_isBit 2 = .ok (.iconst 0, 1) := by decide +kernel
theorem dX10_isBit_3 : decode cX10_isBit 3 = .ok (.aload_n 0, 1) := by decide +kernel
theorem dX10_isBit_4 : decode cX10_isBit 4 = .ok (.getfield 117, 3) := by decide +kernel
theorem dX10_isBit_7 : decode cX10_isBit 7 = .ok (.iconst 1, 1) := by decide +kernel
theorem dX10_isBit_8 : decode cX10_isBit 8 = .ok (.isub, 1) := by decide +kernel
theorem dX10_isBit_9 : decode cX10_isBit 9 = .ok (.invokestatic 84, 3) := by decide +kernel
theorem dX10_isBit_12 : decode cX10_isBit 12 = .ok (.ifCond .eq 7, 3) := by decide +kernel
theorem dX10_isBit_15 : decode cX10_isBit 15 = .ok (.iconst 0, 1) := by decide +kernel
theorem dX10_isBit_16 : decode cX10_isBit 16 = .ok (.goto 4, 3) := by decide +kernel
theorem dX10_isBit_19 : decode cX10_isBit 19 = .ok (.iconst 1, 1) := by decide +kernel
theorem dX10_isBit_20 : decode cX10_isBit 20 = .ok (.invokevirtual 107, 3) := by decide +kernel
theorem dX10_isBit_23 : decode cX10_isBit 23 = .ok (.ireturn, 1) := by decide +kernel
set_option maxRecDepth 20000 in
theorem ggX10_bit_X10_isBit : GoodIn wsX10_bit wsX10_isBit := goodIn_r _ [6, 7, 8, 9, 5, 10, 11, 12, 13, 14, 15, 16, 17, 18, 19, 20, 21, 22, 23, 24, 25, 26, 27, 28, 29, 30, 31, 32, 33, 34, 35, 36, 37, 38, 39, 40, 41, 42, 43, 44, 45, 46, 47, 48, 49, 50] (by decide +kernel) (by decide +kernel)
set_option maxRecDepth 20000 in
theorem gX10_bit_X10_isBit : GoodIn wsX10_bit (wsV RX10 123 RX10 yX10_isBit wsX10_isBit) := goodIn_app (goodIn_of _ (by decide +kernel)) ggX10_bit_X10_isBit
theorem dX10_bit_0 : decode cX10_bit 0 = .ok (.aload_n 0, 1) := by decide +kernel
theorem dX10_bit_1 : decode cX10_bit 1 = .ok (.iload_n 1, 1) := by decide +kernel
theorem dX10_bit_2 : decode cX10_bit 2 = .ok (.invokevirtual 123, 3) := by decide +kernel
theorem dX10_bit_5 : decode cX10_bit 5 = .ok (.ifCond .eq 12, 3) := by decide +kernel
theorem dX10_bit_8 : decode cX10_bit 8 = .ok (.aload_n 0, 1) := by decide +kernel
theorem dX10_bit_9 : decode cX10_bit 9 = .ok (.getfield 34, 3) := by decide +kernel
theorem dX10_bit_12 : decode cX10_bit 12 = .ok (.iload_n 1, 1) := by decide +kernel
theorem dX10_bit_13 : decode cX10_bit 13 = .ok (.iaload, 1) := by decide +kernel
theorem dX10_bit_14 : decode cX10_bit 14 = .ok (.goto 4, 3) := by decide +kernel
theorem dX10_bit_17 : decode cX10_bit 17 = .ok (.iconst 0, 1) := by decide +kernel
theorem dX10_bit_18 : decode cX10_bit 18 = .ok (.ireturn, 1) := by decide +kernel
set_option maxRecDepth 20000 in
theorem ggX10_flip_X10_isBit : GoodIn wsX10_flip wsX10_isBit := goodIn_r _ [6, 7, 8, 9, 5, 10, 11, 12, 13, 14, 15, 16, 17, 18, 19, 20, 21, 22, 23, 24, 25, 26, 27, 28, 29, 30, 31, 32, 33, 34, 35, 36, 37, 38, 39, 40, 41, 42, 43, 44, 45, 46, 47, 48, 49, 50] (by decide +kernel) (by decide +kernel)
set_option maxRecDepth 20000 in
theorem gX10_flip_X10_isBit : GoodIn wsX10_flip (wsV RX10 123 RX10 yX10_isBit wsX10_isBit) := goodIn_app (goodIn_of _ (by decide +kernel)) ggX10_flip_X10_isBit
theorem dX10_flip_0 : decode cX10_flip 0 = .ok (.aload_n 0, 1) := by decide +kernel
theorem dX10_flip_1 : decode cX10_flip 1 = .ok (.iload_n 1, 1) := by decide +kernel
theorem dX10_flip_2 : decode cX10_flip 2 = .ok (.invokevirtual 123, 3) := by decide +kernel
theorem dX10_flip_5 : decode cX10_flip 5 = .ok (.ifCond .ne 5, 3) := by decide +kernel
theorem dX10_flip_8 : decode cX10_flip 8 = .ok (.iconst 0, 1) := by decide +kernel
theorem dX10_flip_9 : decode cX10_flip 9 = .ok (.ireturn, 1) := by decide +kernel
theorem dX10_flip_10 : decode cX10_flip 10 = .ok (.aload_n 0, 1) := by decide +kernel
theorem dX10_flip_11 : decode cX10_flip 11 = .ok (.getfield 34, 3) := by decide +kernel
theorem dX10_flip_14 : decode cX10_flip 14 = .ok (.iload_n 1, 1) := by decide +kernel
theorem dX10_flip_15 : decode cX10_flip 15 = .ok (.iconst 1, 1) := by decide +kernel
theorem dX10_flip_16 : decode cX10_flip 16 = .ok (.aload_n 0, 1) := by decide +kernel
theorem dX10_flip_17 : decode cX10_flip 17 = .ok (.getfield 34, 3) := by decide +kernel
theorem dX10_flip_20 : decode cX10_flip 20 = .ok (.iload_n 1, 1) := by decide +kernel
theorem dX10_flip_21 : decode cX10_flip 21 = .ok (.iaload, 1) := by decide +kernel
theorem dX10_flip_22 : decode cX10_flip 22 = .ok (.isub, 1) := by decide +kernel
theorem dX10_flip_23 : decode cX10_flip 23 = .ok (.iastore, 1) := by decide +kernel
theorem dX10_flip_24 : decode cX10_flip 24 = .ok (.aload_n 0, 1) := by decide +kernel
theorem dX10_flip_25 : decode cX10_flip 25 = .ok (.getfield 34, 3) := by decide +kernel
theorem dX10_flip_28 : decode cX10_flip 28 = .ok (.iload_n 1, 1) := by decide +kernel
theorem dX10_flip_29 : decode cX10_flip 29 = .ok (.iaload, 1) := by decide +kernel
theorem dX10_flip_30 : decode cX10_flip 30 = .ok (.ireturn, 1) := by decide +kernel
theorem dX10_drop_0 : decode cX10_drop 0 = .ok (.aload_n 0, 1) := by decide +kernel
theorem dX10_drop_1 : decode cX10_drop 1 = .ok (.dup, 1) := by decide +kernel
theorem dX10_drop_2 : decode cX10_drop 2 = .ok (.getfield 117, 3) := by decide +kernel
theorem dX10_drop_5 : decode cX10_drop 5 = .ok (.iload_n 2, 1) := by decide +kernel
theorem dX10_drop_6 : decode cX10_drop 6 = .ok (.isub, 1) := by decide +kernel
theorem dX10_drop_7 : decode cX10_drop 7 = .ok (.putfield 117, 3) := by decide +kernel
theorem dX10_drop_10 : decode cX10_drop 10 = .ok (.iload_n 1, 1) := by decide +kernel
theorem dX10_drop_11 : decode cX10_drop 11 = .ok (.istore_n 3, 1) := by decide +kernel
theorem dX10_drop_12 : decode cX10_drop 12 = .ok (.iload_n 3, 1) := by decide +kernel
theorem dX10_drop_13 : decode cX10_drop 13 = .ok (.aload_n 0, 1) := by decide +kernel
theorem dX10_drop_14 : decode cX10_drop 14 = .ok (.getfield 117, 3) := by decide +kernel
theorem dX10_drop_17 : decode cX10_drop 17 = .ok (.if_icmp .ge 23, 3) := by decide +kernel
theorem dX10_drop_20 : decode cX10_drop 20 = .ok (.aload_n 0, 1) := by decide +kernel
theorem dX10_drop_21 : decode cX10_drop 21 = .ok (.getfield 34, 3) := by decide +kernel
theorem dX10_drop_24 : decode cX10_drop 24 = .ok (.iload_n 3, 1) := by decide +kernel
theorem dX10_drop_25 : decode cX10_drop 25 = .ok (.aload_n 0, 1) := by decide +kernel
theorem dX10_drop_26 : decode cX10_drop 26 = .ok (.getfield 34, 3) := by decide +kernel
theorem dX10_drop_29 : decode cX10_drop 29 = .ok (.iload_n 3, 1) := by decide +kernel
theorem dX10_drop_30 : decode cX10_drop 30 = .ok (.iload_n 2, 1) := by decide +kernel
theorem dX10_drop_31 : decode cX10_drop 31 = .ok (.iadd, 1) := by decide +kernel
theorem dX10_drop_32 : decode cX10_drop 32 = .ok (.iaload, 1) := by decide +kernel
theorem dX10_drop_33 : decode cX10_drop 33 = .ok (.iastore, 1) := by decide +kernel
theorem dX10_drop_34 : decode cX10_drop 34 = .ok (.iinc 3 1, 3) := by decide +kernel
theorem dX10_drop_37 : decode cX10_drop 37 = .ok (.goto (-25), 3) := by decide +kernel
theorem dX10_drop_40 : decode cX10_drop 40 = .ok (.return_, 1) := by decide +kernel
set_option maxRecDepth 20000 in
theorem ggX10_cut_X10_can : GoodIn wsX10_cut wsX10_can := goodIn_r _ [6, 7, 13, 14, 15, 16, 17, 18, 19, 20, 21, 22, 23, 24, 25, 26, 27, 28, 29, 30, 31, 32, 33, 34, 35, 36, 37, 38, 39, 40, 41, 42, 43, 44, 45, 46, 47] (by decide +kernel) (by decide +kernel)
set_option maxRecDepth 20000 in
theorem gX10_cut_X10_can : GoodIn wsX10_cut (wsV RX10 107 RX10 yX10_can wsX10_can) := goodIn_app (goodIn_of _ (by decide +kernel)) ggX10_cut_X10_can
set_option maxRecDepth 20000 in
theorem ggX10_cut_X10_drop : GoodIn wsX10_cut wsX10_drop := goodIn_r _ [11, 1, 12, 13, 14, 15, 16, 17, 18, 19, 20, 21, 22, 23, 24, 25, 26, 27, 28, 29, 30, 31, 32, 33, 34, 35, 36, 37, 38, 39, 40, 41, 42, 43, 44, 45, 46, 47] (by decide +kernel) (by decide +kernel)
set_option maxRecDepth 20000 in
theorem gX10_cut_X10_drop : GoodIn wsX10_cut (wsV RX10 126 RX10 yX10_drop wsX10_drop) := goodIn_app (goodIn_of _ (by decide +kernel)) ggX10_cut_X10_drop
theorem dX10_cut_0 : decode cX10_cut 0 = .ok (.aload_n 0, 1) := by decide +kernel
theorem dX10_cut_1 : decode cX10_cut 1 = .ok (.iload_n 2, 1) := by decide +kernel
theorem dX10_cut_2 : decode cX10_cut 2 = .ok (.iconst 1, 1) := by decide +kernel
theorem dX10_cut_3 : decode cX10_cut 3 = .ok (.if_icmp .ge 7, 3) := by decide +kernel
theorem dX10_cut_6 : decode cX10_cut 6 = .ok (.iconst 1, 1) := by decide +kernel
theorem dX10_cut_7 : decode cX10_cut 7 = .ok (.goto 30, 3) := by decide +kernel
theorem dX10_cut_10 : decode cX10_cut 10 = .ok (.iload_n 1, 1) := by decide +kernel
theorem dX10_cut_11 : decode cX10_cut 11 = .ok (.ifCond .lt 21, 3) := by decide +kernel
theorem dX10_cut_14 : decode cX10_cut 14 = .ok (.iload_n 1, 1) := by decide +kernel
theorem dX10_cut_15 : decode cX10_cut 15 = .ok (.aload_n 0, 1) := by decide +kernel
theorem dX10_cut_16 : decode cX10_cut 16 = .ok (.getfield 117, 3) := by decide +kernel
theorem dX10_cut_19 : decode cX10_cut 19 = .ok (.if_icmp .ge 13, 3) := by decide +kernel
theorem dX10_cut_22 : decode cX10_cut 22 = .ok (.iload_n 2, 1) := by decide +kernel
theorem dX10_cut_23 : decode cX10_cut 23 = .ok (.aload_n 0, 1) := by decide +kernel
theorem dX10_cut_24 : decode cX10_cut 24 = .ok (.getfield 117, 3) := by decide +kernel
theorem dX10_cut_27 : decode cX10_cut 27 = .ok (.iload_n 1, 1) := by decide +kernel
theorem dX10_cut_28 : decode cX10_cut 28 = .ok (.isub, 1) := by decide +kernel
theorem dX10_cut_29 : decode cX10_cut 29 = .ok (.if_icmp .le 7, 3) := by decide +kernel
theorem dX10_cut_32 : decode cX10_cut 32 = .ok (.iconst 2, 1) := by decide +kernel
theorem dX10_cut_33 : decode cX10_cut 33 = .ok (.goto 4, 3) := by decide +kernel
theorem dX10_cut_36 : decode cX10_cut 36 = .ok (.iconst 0, 1) := by decide +kernel
theorem dX10_cut_37 : decode cX10_cut 37 = .ok (.invokevirtual 107, 3) := by decide +kernel
theorem dX10_cut_40 : decode cX10_cut 40 = .ok (.ifCond .ne 5, 3) := by decide +kernel
theorem dX10_cut_43 : decode cX10_cut 43 = .ok (.iconst 0, 1) := by decide +kernel
theorem dX10_cut_44 : decode cX10_cut 44 = .ok (.ireturn, 1) := by decide +kernel
theorem dX10_cut_45 : decode cX10_cut 45 = .ok (.aload_n 0, 1) := by decide +kernel
theorem dX10_cut_46 : decode cX10_cut 46 = .ok (.iload_n 1, 1) := by decide +kernel
theorem dX10_cut_47 : decode cX10_cut 47 = .ok (.iload_n 2, 1) := by decide +kernel
theorem dX10_cut_48 : decode cX10_cut 48 = .ok (.invokevirtual 126, 3) := by decide +kernel
theorem dX10_cut_51 : decode cX10_cut 51 = .ok (.aload_n 0, 1) := by decide +kernel
theorem dX10_cut_52 : decode cX10_cut 52 = .ok (.getfield 117, 3) := by decide +kernel
theorem dX10_cut_55 : decode cX10_cut 55 = .ok (.ireturn, 1) := by decide +kernel
theorem dX10_bits_0 : decode cX10_bits 0 = .ok (.iconst 0, 1) := by decide +kernel
theorem dX10_bits_1 : decode cX10_bits 1 = .ok (.istore_n 3, 1) := by decide +kernel
theorem dX10_bits_2 : decode cX10_bits 2 = .ok (.iload_n 1, 1) := by decide +kernel
theorem dX10_bits_3 : decode cX10_bits 3 = .ok (.istore 4, 2) := by decide +kernel
theorem dX10_bits_5 : decode cX10_bits 5 = .ok (.iload 4, 2) := by decide +kernel
theorem dX10_bits_7 : decode cX10_bits 7 = .ok (.iload_n 1, 1) := by decide +kernel
theorem dX10_bits_8 : decode cX10_bits 8 = .ok (.iload_n 2, 1) := by decide +kernel
theorem dX10_bits_9 : decode cX10_bits 9 = .ok (.iadd, 1) := by decide +kernel
theorem dX10_bits_10 : decode cX10_bits 10 = .ok (.if_icmp .ge 21, 3) := by decide +kernel
theorem dX10_bits_13 : decode cX10_bits 13 = .ok (.iconst 2, 1) := by decide +kernel
theorem dX10_bits_14 : decode cX10_bits 14 = .ok (.iload_n 3, 1) := by decide +kernel
theorem dX10_bits_15 : decode cX10_bits 15 = .ok (.imul, 1) := by decide +kernel
theorem dX10_bits_16 : decode cX10_bits 16 = .ok (.aload_n 0, 1) := by decide +kernel
theorem dX10_bits_17 : decode cX10_bits 17 = .ok (.getfield 37, 3) := by decide +kernel
theorem dX10_bits_20 : decode cX10_bits 20 = .ok (.iload 4, 2) := by decide +kernel
theorem dX10_bits_22 : decode cX10_bits 22 = .ok (.iaload, 1) := by decide +kernel
theorem dX10_bits_23 : decode cX10_bits 23 = .ok (.iadd, 1) := by decide +kernel
theorem dX10_bits_24 : decode cX10_bits 24 = .ok (.istore_n 3, 1) := by decide +kernel
theorem dX10_bits_25 : decode cX10_bits 25 = .ok (.iinc 4 1, 3) := by decide +kernel
theorem dX10_bits_28 : decode cX10_bits 28 = .ok (.goto (-23), 3) := by decide +kernel
theorem dX10_bits_31 : decode cX10_bits 31 = .ok (.iload_n 3, 1) := by decide +kernel
theorem dX10_bits_32 : decode cX10_bits 32 = .ok (.ireturn, 1) := by decide +kernel
set_option maxRecDepth 20000 in
theorem ggX10_sample_X10_bits : GoodIn wsX10_sample wsX10_bits := goodIn_r _ [12, 13, 19, 20, 21, 22, 23, 24, 25, 26, 27, 28, 29, 30, 31, 32, 33, 34, 35, 36, 37, 38, 39, 40, 41, 42, 43, 44, 45, 46, 47, 48, 49, 50, 51, 52, 53] (by decide +kernel) (by decide +kernel)
set_option maxRecDepth 20000 in
theorem gX10_sample_X10_bits : GoodIn wsX10_sample (wsV RX10 130 RX10 yX10_bits wsX10_bits) := goodIn_app (goodIn_of _ (by decide +kernel)) ggX10_sample_X10_bits
set_option maxRecDepth 20000 in
theorem ggX10_sample_X10_read : GoodIn wsX10_sample wsX10_read := goodIn_r _ [17, 4, 18, 19, 20, 21, 22, 23, 24, 25, 26, 27, 28, 29, 30, 31, 32, 33, 34, 35, 36, 37, 38, 39, 40, 41, 42, 43, 44, 45, 46, 47, 48, 49, 50, 51, 52, 53] (by decide +kernel) (by decide +kernel)
set_option maxRecDepth 20000 in
theorem gX10_sample_X10_read : GoodIn wsX10_sample (wsV RX10 133 RX10 yX10_read wsX10_read) := goodIn_app (goodIn_of _ (by decide +kernel)) ggX10_sample_X10_read
theorem dX10_sample_0 : decode cX10_sample 0 = .ok (.bipush 16, 2) := by decide +kernel
theorem dX10_sample_2 : decode cX10_sample 2 = .ok (.aload_n 0, 1) := by decide +kernel
theorem dX10_sample_3 : decode cX10_sample 3 = .ok (.getfield 25, 3) := by decide +kernel
theorem dX10_sample_6 : decode cX10_sample 6 = .ok (.iload_n 1, 1) := by decide +kernel
theorem dX10_sample_7 : decode cX10_sample 7 = .ok (.iaload, 1) := by decide +kernel
theorem dX10_sample_8 : decode cX10_sample 8 = .ok (.iadd, 1) := by decide +kernel
theorem dX10_sample_9 : decode cX10_sample 9 = .ok (.bipush 24, 2) := by decide +kernel
theorem dX10_sample_11 : decode cX10_sample 11 = .ok (.iload_n 2, 1) := by decide +kernel
theorem dX10_sample_12 : decode cX10_sample 12 = .ok (.imul, 1) := by decide +kernel
theorem dX10_sample_13 : decode cX10_sample 13 = .ok (.iadd, 1) := by decide +kernel
theorem dX10_sample_14 : decode cX10_sample 14 = .ok (.istore_n 3, 1) := by decide +kernel
theorem dX10_sample_15 : decode cX10_sample 15 = .ok (.aload_n 0, 1) := by decide +kernel
theorem dX10_sample_16 : decode cX10_sample 16 = .ok (.getfield 40, 3) := by decide +kernel
theorem dX10_sample_19 : decode cX10_sample 19 = .ok (.iload_n 1, 1) := by decide +kernel
theorem dX10_sample_20 : decode cX10_sample 20 = .ok (.aload_n 0, 1) := by decide +kernel
theorem dX10_sample_21 : decode cX10_sample 21 = .ok (.iload_n 1, 1) := by decide +kernel
theorem dX10_sample_22 : decode cX10_sample 22 = .ok (.aload_n 0, 1) := by decide +kernel
theorem dX10_sample_23 : decode cX10_sample 23 = .ok (.aload_n 0, 1) := by decide +kernel
theorem dX10_sample_24 : decode cX10_sample 24 = .ok (.getfield 75, 3) := by decide +kernel
theorem dX10_sample_27 : decode cX10_sample 27 = .ok (.iload_n 3, 1) := by decide +kernel
theorem dX10_sample_28 : decode cX10_sample 28 = .ok (.iadd, 1) := by decide +kernel
theorem dX10_sample_29 : decode cX10_sample 29 = .ok (.aload_n 0, 1) := by decide +kernel
theorem dX10_sample_30 : decode cX10_sample 30 = .ok (.getfield 7, 3) := by decide +kernel
theorem dX10_sample_33 : decode cX10_sample 33 = .ok (.iload_n 1, 1) := by decide +kernel
theorem dX10_sample_34 : decode cX10_sample 34 = .ok (.iaload, 1) := by decide +kernel
theorem dX10_sample_35 : decode cX10_sample 35 = .ok (.invokevirtual 130, 3) := by decide +kernel
theorem dX10_sample_38 : decode cX10_sample 38 = .ok (.invokevirtual 133, 3) := by decide +kernel
theorem dX10_sample_41 : decode cX10_sample 41 = .ok (.iastore, 1) := by decide +kernel
theorem dX10_sample_42 : decode cX10_sample 42 = .ok (.aload_n 0, 1) := by decide +kernel
theorem dX10_sample_43 : decode cX10_sample 43 = .ok (.getfield 43, 3) := by decide +kernel
theorem dX10_sample_46 : decode cX10_sample 46 = .ok (.iload_n 1, 1) := by decide +kernel
theorem dX10_sample_47 : decode cX10_sample 47 = .ok (.bipush 64, 2) := by decide +kernel
theorem dX10_sample_49 : decode cX10_sample 49 = .ok (.aload_n 0, 1) := by decide +kernel
theorem dX10_sample_50 : decode cX10_sample 50 = .ok (.getfield 136, 3) := by decide +kernel
theorem dX10_sample_53 : decode cX10_sample 53 = .ok (.imul, 1) := by decide +kernel
theorem dX10_sample_54 : decode cX10_sample 54 = .ok (.iload_n 3, 1) := by decide +kernel
theorem dX10_sample_55 : decode cX10_sample 55 = .ok (.iadd, 1) := by decide +kernel
theorem dX10_sample_56 : decode cX10_sample 56 = .ok (.iastore, 1) := by decide +kernel
theorem dX10_sample_57 : decode cX10_sample 57 = .ok (.aload_n 0, 1) := by decide +kernel
theorem dX10_sample_58 : decode cX10_sample 58 = .ok (.getfield 46, 3) := by decide +kernel
theorem dX10_sample_61 : decode cX10_sample 61 = .ok (.iload_n 1, 1) := by decide +kernel
theorem dX10_sample_62 : decode cX10_sample 62 = .ok (.dup2, 1) := by decide +kernel
theorem dX10_sample_63 : decode cX10_sample 63 = .ok (.iaload, 1) := by decide +kernel
theorem dX10_sample_64 : decode cX10_sample 64 = .ok (.iconst 1, 1) := by decide +kernel
theorem dX10_sample_65 : decode cX10_sample 65 = .ok (.iadd, 1) := by decide +kernel
theorem dX10_sample_66 : decode cX10_sample 66 = .ok (.iastore, 1) := by decide +kernel
theorem dX10_sample_67 : decode cX10_sample 67 = .ok (.return_, 1) := by decide +kernel
set_option maxRecDepth 20000 in
theorem ggX10_decodes_X10_bits : GoodIn wsX10_decodes wsX10_bits := goodIn_r _ [14, 15, 36, 37, 38, 39, 40, 41, 42, 43, 44, 45, 46, 47, 48, 49, 50, 51, 52, 53, 54, 55, 56, 57, 58, 59, 60, 61, 62, 63, 64, 65, 66, 67, 68, 69, 70] (by decide +kernel) (by decide +kernel)
set_option maxRecDepth 20000 in
theorem gX10_decodes_X10_bits : GoodIn wsX10_decodes (wsV RX10 130 RX10 yX10_bits wsX10_bits) := goodIn_app (goodIn_of _ (by decide +kernel)) ggX10_decodes_X10_bits
set_option maxRecDepth 20000 in
theorem ggX10_decodes_X10_isSent : GoodIn wsX10_decodes wsX10_isSent := goodIn_r _ [19, 20, 21, 36, 37, 38, 39, 40, 41, 42, 43, 44, 45, 46, 47, 48, 49, 50, 51, 52, 53, 54, 55, 56, 57, 58, 59, 60, 61, 62, 63, 64, 65, 66, 67, 68, 69, 70] (by decide +kernel) (by decide +kernel)
set_option maxRecDepth 20000 in
theorem gX10_decodes_X10_isSent : GoodIn wsX10_decodes (wsV RX10 88 RX10 yX10_isSent wsX10_isSent) := goodIn_app (goodIn_of _ (by decide +kernel)) ggX10_decodes_X10_isSent
set_option maxRecDepth 20000 in
theorem ggX10_decodes_X10_sample : GoodIn wsX10_decodes wsX10_sample := goodIn_r _ [25, 26, 27, 1, 28, 29, 8, 30, 10, 11, 12, 13, 14, 15, 31, 32, 33, 34, 35, 36, 37, 38, 39, 40, 41, 42, 43, 44, 45, 46, 47, 48, 49, 50, 51, 52, 53, 54, 55, 56, 57, 58, 59, 60, 61, 62, 63, 64, 65, 66, 67, 68, 69, 70] (by decide +kernel) (by decide +kernel)
set_option maxRecDepth 20000 in
theorem gX10_decodes_X10_sample : GoodIn wsX10_decodes (wsV RX10 148 RX10 yX10_sample wsX10_sample) := goodIn_app (goodIn_of _ (by decide +kernel)) ggX10_decodes_X10_sample
theorem dX10_decodes_0 : decode cX10_decodes 0 = .ok (.aload_n 0, 1) := by decide +kernel
theorem dX10_decodes_1 : decode cX10_decodes 1 = .ok (.aload_n 0, 1) := by decide +kernel
theorem dX10_decodes_2 : decode cX10_decodes 2 = .ok (.getfield 75, 3) := by decide +kernel
theorem dX10_decodes_5 : decode cX10_decodes 5 = .ok (.bipush 8, 2) := by decide +kernel
theorem dX10_decodes_7 : decode cX10_decodes 7 = .ok (.iadd, 1) := by decide +kernel
theorem dX10_decodes_8 : decode cX10_decodes 8 = .ok (.bipush 8, 2) := by decide +kernel
theorem dX10_decodes_10 : decode cX10_decodes 10 = .ok (.invokevirtual 130, 3) := by decide +kernel
theorem dX10_decodes_13 : decode cX10_decodes 13 = .ok (.istore_n 1, 1) := by decide +kernel
theorem dX10_decodes_14 : decode cX10_decodes 14 = .ok (.aload_n 0, 1) := by decide +kernel
theorem dX10_decodes_15 : decode cX10_decodes 15 = .ok (.getfield 71, 3) := by decide +kernel
theorem dX10_decodes_18 : decode cX10_decodes 18 = .ok (.iconst (-1), 1) := by decide +kernel
theorem dX10_decodes_19 : decode cX10_decodes 19 = .ok (.if_icmp .ne 7, 3) := by decide +kernel
theorem dX10_decodes_22 : decode cX10_decodes 22 = .ok (.iconst 0, 1) := by decide +kernel
theorem dX10_decodes_23 : decode cX10_decodes 23 = .ok (.goto 17, 3) := by decide +kernel
theorem dX10_decodes_26 : decode cX10_decodes 26 = .ok (.iload_n 1, 1) := by decide +kernel
theorem dX10_decodes_27 : decode cX10_decodes 27 = .ok (.aload_n 0, 1) := by decide +kernel
theorem dX10_decodes_28 : decode cX10_decodes 28 = .ok (.getfield 71, 3) := by decide +kernel
theorem dX10_decodes_31 : decode cX10_decodes 31 = .ok (.isub, 1) := by decide +kernel
theorem dX10_decodes_32 : decode cX10_decodes 32 = .ok (.sipush 256, 3) := by decide +kernel
theorem dX10_decodes_35 : decode cX10_decodes 35 = .ok (.iadd, 1) := by decide +kernel
theorem dX10_decodes_36 : decode cX10_decodes 36 = .ok (.sipush 256, 3) := by decide +kernel
theorem dX10_decodes_39 : decode cX10_decodes 39 = .ok (.irem, 1) := by decide +kernel
theorem dX10_decodes_40 : decode cX10_decodes 40 = .ok (.istore_n 2, 1) := by decide +kernel
theorem dX10_decodes_41 : decode cX10_decodes 41 = .ok (.aload_n 0, 1) := by decide +kernel
theorem dX10_decodes_42 : decode cX10_decodes 42 = .ok (.getfield 71, 3) := by decide +kernel
theorem dX10_decodes_45 : decode cX10_decodes 45 = .ok (.iconst (-1), 1) := by decide +kernel
theorem dX10_decodes_46 : decode cX10_decodes 46 = .ok (.if_icmp .eq 19, 3) := by decide +kernel
theorem dX10_decodes_49 : decode cX10_decodes 49 = .ok (.iload_n 2, 1) := by decide +kernel
theorem dX10_decodes_50 : decode cX10_decodes 50 = .ok (.ifCond .ne 15, 3) := by decide +kernel
theorem dX10_decodes_53 : decode cX10_decodes 53 = .ok (.aload_n 0, 1) := by decide +kernel
theorem dX10_decodes_54 : decode cX10_decodes 54 = .ok (.dup, 1) := by decide +kernel
theorem dX10_decodes_55 : decode cX10_decodes 55 = .ok (.getfield 139, 3) := by decide +kernel
theorem dX10_decodes_58 : decode cX10_decodes 58 = .ok (.iconst 1, 1) := by decide +kernel
theorem dX10_decodes_59 : decode cX10_decodes 59 = .ok (.iadd, 1) := by decide +kernel
theorem dX10_decodes_60 : decode cX10_decodes 60 = .ok (.putfield 139, 3) := by decide +kernel
theorem dX10_decodes_63 : decode cX10_decodes 63 = .ok (.iconst 0, 1) := by decide +kernel
theorem dX10_decodes_64 : decode cX10_decodes 64 = .ok (.ireturn, 1) := by decide +kernel
theorem dX10_decodes_65 : decode cX10_decodes 65 = .ok (.iconst 1, 1) := by decide +kernel
theorem dX10_decodes_66 : decode cX10_decodes 66 = .ok (.istore_n 3, 1) := by decide +kernel
theorem dX10_decodes_67 : decode cX10_decodes 67 = .ok (.iload_n 3, 1) := by decide +kernel
theorem dX10_decodes_68 : decode cX10_decodes 68 = .ok (.iload_n 2, 1) := by decide +kernel
theorem dX10_decodes_69 : decode cX10_decodes 69 = .ok (.if_icmp .ge 77, 3) := by decide +kernel
theorem dX10_decodes_72 : decode cX10_decodes 72 = .ok (.iconst 0, 1) := by decide +kernel
theorem dX10_decodes_73 : decode cX10_decodes 73 = .ok (.istore 4, 2) := by decide +kernel
theorem dX10_decodes_75 : decode cX10_decodes 75 = .ok (.iload 4, 2) := by decide +kernel
theorem dX10_decodes_77 : decode cX10_decodes 77 = .ok (.aload_n 0, 1) := by decide +kernel
theorem dX10_decodes_78 : decode cX10_decodes 78 = .ok (.getfield 81, 3) := by decide +kernel
theorem dX10_decodes_81 : decode cX10_decodes 81 = .ok (.if_icmp .ge 49, 3) := by decide +kernel
theorem dX10_decodes_84 : decode cX10_decodes 84 = .ok (.aload_n 0, 1) := by decide +kernel
theorem dX10_decodes_85 : decode cX10_decodes 85 = .ok (.getfield 49, 3) := by decide +kernel
theorem dX10_decodes_88 : decode cX10_decodes 88 = .ok (.iload 4, 2) := by decide +kernel
theorem dX10_decodes_90 : decode cX10_decodes 90 = .ok (.dup2, 1) := by decide +kernel
theorem dX10_decodes_91 : decode cX10_decodes 91 = .ok (.iaload, 1) := by decide +kernel
theorem dX10_decodes_92 : decode cX10_decodes 92 = .ok (.aload_n 0, 1) := by decide +kernel
theorem dX10_decodes_93 : decode cX10_decodes 93 = .ok (.iload 4, 2) := by decide +kernel
theorem dX10_decodes_95 : decode cX10_decodes 95 = .ok (.aload_n 0, 1) := by decide +kernel
theorem dX10_decodes_96 : decode cX10_decodes 96 = .ok (.getfield 71, 3) := by decide +kernel
theorem dX10_decodes_99 : decode cX10_decodes 99 = .ok (.iload_n 3, 1) := by decide +kernel
theorem dX10_decodes_100 : decode cX10_decodes 100 = .ok (.iadd, 1) := by decide +kernel
theorem dX10_decodes_101 : decode cX10_decodes 101 = .ok (.sipush 256, 3) := by decide +kernel
theorem dX10_decodes_104 : decode cX10_decodes 104 = .ok (.irem, 1) := by decide +kernel
theorem dX10_decodes_105 : decode cX10_decodes 105 = .ok (.invokevirtual 88, 3) := by decide +kernel
theorem dX10_decodes_108 : decode cX10_decodes 108 = .ok (.ifCond .eq 13, 3) := by decide +kernel
theorem dX10_decodes_111 : decode cX10_decodes 111 = .ok (.aload_n 0, 1) := by decide +kernel
theorem dX10_decodes_112 : decode cX10_decodes 112 = .ok (.getfield 19, 3) := by decide +kernel
theorem dX10_decodes_115 : decode cX10_decodes 115 = .ok (.iload 4, 2) := by decide +kernel
theorem dX10_decodes_117 : decode cX10_decodes 117 = .ok (.iaload, 1) := by decide +kernel
theorem dX10_decodes_118 : decode cX10_decodes 118 = .ok (.goto 4, 3) := by decide +kernel
theorem dX10_decodes_121 : decode cX10_decodes 121 = .ok (.iconst 0, 1) := by decide +kernel
theorem dX10_decodes_122 : decode cX10_decodes 122 = .ok (.iadd, 1) := by decide +kernel
theorem dX10_decodes_123 : decode cX10_decodes 123 = .ok (.iastore, 1) := by decide +kernel
theorem dX10_decodes_124 : decode cX10_decodes 124 = .ok (.iinc 4 1, 3) := by decide +kernel
theorem dX10_decodes_127 : decode cX10_decodes 127 = .ok (.goto (-52), 3) := by decide +kernel
theorem dX10_decodes_130 : decode cX10_decodes 130 = .ok (.aload_n 0, 1) := by decide +kernel
theorem dX10_decodes_131 : decode cX10_decodes 131 = .ok (.dup, 1) := by decide +kernel
theorem dX10_decodes_132 : decode cX10_decodes 132 = .ok (.getfield 142, 3) := by decide +kernel
theorem dX10_decodes_135 : decode cX10_decodes 135 = .ok (.iconst 1, 1) := by decide +kernel
theorem dX10_decodes_136 : decode cX10_decodes 136 = .ok (.iadd, 1) := by decide +kernel
theorem dX10_decodes_137 : decode cX10_decodes 137 = .ok (.putfield 142, 3) := by decide +kernel
theorem dX10_decodes_140 : decode cX10_decodes 140 = .ok (.iinc 3 1, 3) := by decide +kernel
theorem dX10_decodes_143 : decode cX10_decodes 143 = .ok (.goto (-76), 3) := by decide +kernel
theorem dX10_decodes_146 : decode cX10_decodes 146 = .ok (.aload_n 0, 1) := by decide +kernel
theorem dX10_decodes_147 : decode cX10_decodes 147 = .ok (.aload_n 0, 1) := by decide +kernel
theorem dX10_decodes_148 : decode cX10_decodes 148 = .ok (.getfield 71, 3) := by decide +kernel
theorem dX10_decodes_151 : decode cX10_decodes 151 = .ok (.iconst (-1), 1) := by decide +kernel
theorem dX10_decodes_152 : decode cX10_decodes 152 = .ok (.if_icmp .ne 7, 3) := by decide +kernel
theorem dX10_decodes_155 : decode cX10_decodes 155 = .ok (.iload_n 1, 1) := by decide +kernel
theorem dX10_decodes_156 : decode cX10_decodes 156 = .ok (.goto 9, 3) := by decide +kernel
theorem dX10_decodes_159 : decode cX10_decodes 159 = .ok (.aload_n 0, 1) := by decide +kernel
theorem dX10_decodes_160 : decode cX10_decodes 160 = .ok (.getfield 136, 3) := by decide +kernel
theorem dX10_decodes_163 : decode cX10_decodes 163 = .ok (.iload_n 2, 1) := by decide +kernel
theorem dX10_decodes_164 : decode cX10_decodes 164 = .ok (.iadd, 1) := by decide +kernel
theorem dX10_decodes_165 : decode cX10_decodes 165 = .ok (.putfield 136, 3) := by decide +kernel
theorem dX10_decodes_168 : decode cX10_decodes 168 = .ok (.aload_n 0, 1) := by decide +kernel
theorem dX10_decodes_169 : decode cX10_decodes 169 = .ok (.iload_n 1, 1) := by decide +kernel
theorem dX10_decodes_170 : decode cX10_decodes 170 = .ok (.putfield 71, 3) := by decide +kernel
theorem dX10_decodes_173 : decode cX10_decodes 173 = .ok (.aload_n 0, 1) := by decide +kernel
theorem dX10_decodes_174 : decode cX10_decodes 174 = .ok (.dup, 1) := by decide +kernel
theorem dX10_decodes_175 : decode cX10_decodes 175 = .ok (.getfield 145, 3) := by decide +kernel
theorem dX10_decodes_178 : decode cX10_decodes 178 = .ok (.iconst 1, 1) := by decide +kernel
theorem dX10_decodes_179 : decode cX10_decodes 179 = .ok (.iadd, 1) := by decide +kernel
theorem dX10_decodes_180 : decode cX10_decodes 180 = .ok (.putfield 145, 3) := by decide +kernel
theorem dX10_decodes_183 : decode cX10_decodes 183 = .ok (.iconst 0, 1) := by decide +kernel
theorem dX10_decodes_184 : decode cX10_decodes 184 = .ok (.istore_n 3, 1) := by decide +kernel
theorem dX10_decodes_185 : decode cX10_decodes 185 = .ok (.iload_n 3, 1) := by decide +kernel
theorem dX10_decodes_186 : decode cX10_decodes 186 = .ok (.aload_n 0, 1) := by decide +kernel
theorem dX10_decodes_187 : decode cX10_decodes 187 = .ok (.getfield 81, 3) := by decide +kernel
theorem dX10_decodes_190 : decode cX10_decodes 190 = .ok (.if_icmp .ge 45, 3) := by decide +kernel
theorem dX10_decodes_193 : decode cX10_decodes 193 = .ok (.iconst 0, 1) := by decide +kernel
theorem dX10_decodes_194 : decode cX10_decodes 194 = .ok (.istore 4, 2) := by decide +kernel
theorem dX10_decodes_196 : decode cX10_decodes 196 = .ok (.iload 4, 2) := by decide +kernel
theorem dX10_decodes_198 : decode cX10_decodes 198 = .ok (.aload_n 0, 1) := by decide +kernel
theorem dX10_decodes_199 : decode cX10_decodes 199 = .ok (.getfield 19, 3) := by decide +kernel
theorem dX10_decodes_202 : decode cX10_decodes 202 = .ok (.iload_n 3, 1) := by decide +kernel
theorem dX10_decodes_203 : decode cX10_decodes 203 = .ok (.iaload, 1) := by decide +kernel
theorem dX10_decodes_204 : decode cX10_decodes 204 = .ok (.if_icmp .ge 25, 3) := by decide +kernel
theorem dX10_decodes_207 : decode cX10_decodes 207 = .ok (.aload_n 0, 1) := by decide +kernel
theorem dX10_decodes_208 : decode cX10_decodes 208 = .ok (.iload_n 3, 1) := by decide +kernel
theorem dX10_decodes_209 : decode cX10_decodes 209 = .ok (.iload_n 1, 1) := by decide +kernel
theorem dX10_decodes_210 : decode cX10_decodes 210 = .ok (.invokevirtual 88, 3) := by decide +kernel
theorem dX10_decodes_213 : decode cX10_decodes 213 = .ok (.ifCond .eq 16, 3) := by decide +kernel
theorem dX10_decodes_216 : decode cX10_decodes 216 = .ok (.aload_n 0, 1) := by decide +kernel
theorem dX10_decodes_217 : decode cX10_decodes 217 = .ok (.iload_n 3, 1) := by decide +kernel
theorem dX10_decodes_218 : decode cX10_decodes 218 = .ok (.iload 4, 2) := by decide +kernel
theorem dX10_decodes_220 : decode cX10_decodes 220 = .ok (.invokevirtual 148, 3) := by decide +kernel
theorem dX10_decodes_223 : decode cX10_decodes 223 = .ok (.iinc 4 1, 3) := by decide +kernel
theorem dX10_decodes_226 : decode cX10_decodes 226 = .ok (.goto (-30), 3) := by decide +kernel
theorem dX10_decodes_229 : decode cX10_decodes 229 = .ok (.iinc 3 1, 3) := by decide +kernel
theorem dX10_decodes_232 : decode cX10_decodes 232 = .ok (.goto (-47), 3) := by decide +kernel
theorem dX10_decodes_235 : decode cX10_decodes 235 = .ok (.iconst 1, 1) := by decide +kernel
theorem dX10_decodes_236 : decode cX10_decodes 236 = .ok (.ireturn, 1) := by decide +kernel
theorem dX10_compares_0 : decode cX10_compares 0 = .ok (.iconst 0, 1) := by decide +kernel
theorem dX10_compares_1 : decode cX10_compares 1 = .ok (.istore_n 1, 1) := by decide +kernel
theorem dX10_compares_2 : decode cX10_compares 2 = .ok (.iconst 0, 1) := by decide +kernel
theorem dX10_compares_3 : decode cX10_compares 3 = .ok (.istore_n 2, 1) := by decide +kernel
theorem dX10_compares_4 : decode cX10_compares 4 = .ok (.iload_n 2, 1) := by decide +kernel
theorem dX10_compares_5 : decode cX10_compares 5 = .ok (.bipush 8, 2) := by decide +kernel
theorem dX10_compares_7 : decode cX10_compares 7 = .ok (.if_icmp .ge 41, 3) := by decide +kernel
theorem dX10_compares_10 : decode cX10_compares 10 = .ok (.iload_n 1, 1) := by decide +kernel
theorem dX10_compares_11 : decode cX10_compares 11 = .ok (.aload_n 0, 1) := by decide +kernel
theorem dX10_compares_12 : decode cX10_compares 12 = .ok (.getfield 37, 3) := by decide +kernel
theorem dX10_compares_15 : decode cX10_compares 15 = .ok (.aload_n 0, 1) := by decide +kernel
theorem dX10_compares_16 : decode cX10_compares 16 = .ok (.getfield 75, 3) := by decide +kernel
theorem dX10_compares_19 : decode cX10_compares 19 = .ok (.iload_n 2, 1) := by decide +kernel
theorem dX10_compares_20 : decode cX10_compares 20 = .ok (.iadd, 1) := by decide +kernel
theorem dX10_compares_21 : decode cX10_compares 21 = .ok (.iaload, 1) := by decide +kernel
theorem dX10_compares_22 : decode cX10_compares 22 = .ok (.sipush 184, 3) := by decide +kernel
theorem dX10_compares_25 : decode cX10_compares 25 = .ok (.bipush 7, 2) := by decide +kernel
theorem dX10_compares_27 : decode cX10_compares 27 = .ok (.iload_n 2, 1) := by decide +kernel
theorem dX10_compares_28 : decode cX10_compares 28 = .ok (.isub, 1) := by decide +kernel
theorem dX10_compares_29 : decode cX10_compares 29 = .ok (.ishr, 1) := by decide +kernel
theorem dX10_compares_30 : decode cX10_compares 30 = .ok (.iconst 1, 1) := by decide +kernel
theorem dX10_compares_31 : decode cX10_compares 31 = .ok (.iand, 1) := by decide +kernel
theorem dX10_compares_32 : decode cX10_compares 32 = .ok (.if_icmp .ne 7, 3) := by decide +kernel
theorem dX10_compares_35 : decode cX10_compares 35 = .ok (.iconst 0, 1) := by decide +kernel
theorem dX10_compares_36 : decode cX10_compares 36 = .ok (.goto 4, 3) := by decide +kernel
theorem dX10_compares_39 : decode cX10_compares 39 = .ok (.iconst 1, 1) := by decide +kernel
theorem dX10_compares_40 : decode cX10_compares 40 = .ok (.iadd, 1) := by decide +kernel
theorem dX10_compares_41 : decode cX10_compares 41 = .ok (.istore_n 1, 1) := by decide +kernel
theorem dX10_compares_42 : decode cX10_compares 42 = .ok (.iinc 2 1, 3) := by decide +kernel
theorem dX10_compares_45 : decode cX10_compares 45 = .ok (.goto (-41), 3) := by decide +kernel
theorem dX10_compares_48 : decode cX10_compares 48 = .ok (.aload_n 0, 1) := by decide +kernel
theorem dX10_compares_49 : decode cX10_compares 49 = .ok (.getfield 151, 3) := by decide +kernel
theorem dX10_compares_52 : decode cX10_compares 52 = .ok (.iconst 1, 1) := by decide +kernel
theorem dX10_compares_53 : decode cX10_compares 53 = .ok (.if_icmp .ne 54, 3) := by decide +kernel
theorem dX10_compares_56 : decode cX10_compares 56 = .ok (.aload_n 0, 1) := by decide +kernel
theorem dX10_compares_57 : decode cX10_compares 57 = .ok (.dup, 1) := by decide +kernel
theorem dX10_compares_58 : decode cX10_compares 58 = .ok (.getfield 154, 3) := by decide +kernel
theorem dX10_compares_61 : decode cX10_compares 61 = .ok (.iload_n 1, 1) := by decide +kernel
theorem dX10_compares_62 : decode cX10_compares 62 = .ok (.ifCond .ne 7, 3) := by decide +kernel
theorem dX10_compares_65 : decode cX10_compares 65 = .ok (.iconst 1, 1) := by decide +kernel
theorem dX10_compares_66 : decode cX10_compares 66 = .ok (.goto 4, 3) := by decide +kernel
theorem dX10_compares_69 : decode cX10_compares 69 = .ok (.iconst 0, 1) := by decide +kernel
theorem dX10_compares_70 : decode cX10_compares 70 = .ok (.iadd, 1) := by decide +kernel
theorem dX10_compares_71 : decode cX10_compares 71 = .ok (.putfield 154, 3) := by decide +kernel
theorem dX10_compares_74 : decode cX10_compares 74 = .ok (.aload_n 0, 1) := by decide +kernel
theorem dX10_compares_75 : decode cX10_compares 75 = .ok (.iload_n 1, 1) := by decide +kernel
theorem dX10_compares_76 : decode cX10_compares 76 = .ok (.ifCond .le 7, 3) := by decide +kernel
theorem dX10_compares_79 : decode cX10_compares 79 = .ok (.iconst 0, 1) := by decide +kernel
theorem dX10_compares_80 : decode cX10_compares 80 = .ok (.goto 16, 3) := by decide +kernel
theorem dX10_compares_83 : decode cX10_compares 83 = .ok (.aload_n 0, 1) := by decide +kernel
theorem dX10_compares_84 : decode cX10_compares 84 = .ok (.getfield 154, 3) := by decide +kernel
theorem dX10_compares_87 : decode cX10_compares 87 = .ok (.iconst 3, 1) := by decide +kernel
theorem dX10_compares_88 : decode cX10_compares 88 = .ok (.if_icmp .ne 7, 3) := by decide +kernel
theorem dX10_compares_91 : decode cX10_compares 91 = .ok (.iconst 2, 1) := by decide +kernel
theorem dX10_compares_92 : decode cX10_compares 92 = .ok (.goto 4, 3) := by decide +kernel
theorem dX10_compares_95 : decode cX10_compares 95 = .ok (.iconst 1, 1) := by decide +kernel
theorem dX10_compares_96 : decode cX10_compares 96 = .ok (.putfield 151, 3) := by decide +kernel
theorem dX10_compares_99 : decode cX10_compares 99 = .ok (.aload_n 0, 1) := by decide +kernel
theorem dX10_compares_100 : decode cX10_compares 100 = .ok (.iconst 0, 1) := by decide +kernel
theorem dX10_compares_101 : decode cX10_compares 101 = .ok (.putfield 157, 3) := by decide +kernel
theorem dX10_compares_104 : decode cX10_compares 104 = .ok (.goto 39, 3) := by decide +kernel
theorem dX10_compares_107 : decode cX10_compares 107 = .ok (.aload_n 0, 1) := by decide +kernel
theorem dX10_compares_108 : decode cX10_compares 108 = .ok (.iload_n 1, 1) := by decide +kernel
theorem dX10_compares_109 : decode cX10_compares 109 = .ok (.iconst 1, 1) := by decide +kernel
theorem dX10_compares_110 : decode cX10_compares 110 = .ok (.if_icmp .gt 7, 3) := by decide +kernel
theorem dX10_compares_113 : decode cX10_compares 113 = .ok (.iconst 0, 1) := by decide +kernel
theorem dX10_compares_114 : decode cX10_compares 114 = .ok (.goto 9, 3) := by decide +kernel
theorem dX10_compares_117 : decode cX10_compares 117 = .ok (.aload_n 0, 1) := by decide +kernel
theorem dX10_compares_118 : decode cX10_compares 118 = .ok (.getfield 157, 3) := by decide +kernel
theorem dX10_compares_121 : decode cX10_compares 121 = .ok (.iconst 1, 1) := by decide +kernel
theorem dX10_compares_122 : decode cX10_compares 122 = .ok (.iadd, 1) := by decide +kernel
theorem dX10_compares_123 : decode cX10_compares 123 = .ok (.putfield 157, 3) := by decide +kernel
theorem dX10_compares_126 : decode cX10_compares 126 = .ok (.aload_n 0, 1) := by decide +kernel
theorem dX10_compares_127 : decode cX10_compares 127 = .ok (.aload_n 0, 1) := by decide +kernel
theorem dX10_compares_128 : decode cX10_compares 128 = .ok (.getfield 157, 3) := by decide +kernel
theorem dX10_compares_131 : decode cX10_compares 131 = .ok (.iconst 2, 1) := by decide +kernel
theorem dX10_compares_132 : decode cX10_compares 132 = .ok (.if_icmp .ne 7, 3) := by decide +kernel
theorem dX10_compares_135 : decode cX10_compares 135 = .ok (.iconst 0, 1) := by decide +kernel
theorem dX10_compares_136 : decode cX10_compares 136 = .ok (.goto 4, 3) := by decide +kernel
theorem dX10_compares_139 : decode cX10_compares 139 = .ok (.iconst 2, 1) := by decide +kernel
theorem dX10_compares_140 : decode cX10_compares 140 = .ok (.putfield 151, 3) := by decide +kernel
theorem dX10_compares_143 : decode cX10_compares 143 = .ok (.aload_n 0, 1) := by decide +kernel
theorem dX10_compares_144 : decode cX10_compares 144 = .ok (.aload_n 0, 1) := by decide +kernel
theorem dX10_compares_145 : decode cX10_compares 145 = .ok (.getfield 151, 3) := by decide +kernel
theorem dX10_compares_148 : decode cX10_compares 148 = .ok (.iconst 2, 1) := by decide +kernel
theorem dX10_compares_149 : decode cX10_compares 149 = .ok (.if_icmp .ne 7, 3) := by decide +kernel
theorem dX10_compares_152 : decode cX10_compares 152 = .ok (.iconst 1, 1) := by decide +kernel
theorem dX10_compares_153 : decode cX10_compares 153 = .ok (.goto 4, 3) := by decide +kernel
theorem dX10_compares_156 : decode cX10_compares 156 = .ok (.iconst 0, 1) := by decide +kernel
theorem dX10_compares_157 : decode cX10_compares 157 = .ok (.putfield 160, 3) := by decide +kernel
theorem dX10_compares_160 : decode cX10_compares 160 = .ok (.return_, 1) := by decide +kernel
set_option maxRecDepth 20000 in
theorem ggX10_takes_X10_bits : GoodIn wsX10_takes wsX10_bits := goodIn_r _ [11, 1, 49, 50, 51, 52, 53, 54, 55, 56, 57, 58, 59, 60, 61, 62, 63, 64, 65, 66, 67, 68, 69, 70, 71, 72, 73, 74, 75, 76, 77, 78, 79, 80, 81, 82, 83] (by decide +kernel) (by decide +kernel)
set_option maxRecDepth 20000 in
theorem gX10_takes_X10_bits : GoodIn wsX10_takes (wsV RX10 130 RX10 yX10_bits wsX10_bits) := goodIn_app (goodIn_of _ (by decide +kernel)) ggX10_takes_X10_bits
set_option maxRecDepth 20000 in
theorem ggX10_takes_X10_compares : GoodIn wsX10_takes wsX10_compares := goodIn_r _ [15, 1, 5, 3, 4, 16, 6, 49, 50, 51, 52, 53, 54, 55, 56, 57, 58, 59, 60, 61, 62, 63, 64, 65, 66, 67, 68, 69, 70, 71, 72, 73, 74, 75, 76, 77, 78, 79, 80, 81, 82, 83] (by decide +kernel) (by decide +kernel)
set_option maxRecDepth 20000 in
theorem gX10_takes_X10_compares : GoodIn wsX10_takes (wsV RX10 167 RX10 yX10_compares wsX10_compares) := goodIn_app (goodIn_of _ (by decide +kernel)) ggX10_takes_X10_compares
set_option maxRecDepth 20000 in
theorem ggX10_takes_X10_decodes : GoodIn wsX10_takes wsX10_decodes := goodIn_r _ [20, 5, 21, 22, 23, 24, 25, 26, 27, 28, 7, 8, 9, 10, 11, 1, 29, 30, 31, 32, 33, 34, 35, 36, 37, 38, 39, 40, 41, 42, 43, 44, 45, 46, 47, 48, 49, 50, 51, 52, 53, 54, 55, 56, 57, 58, 59, 60, 61, 62, 63, 64, 65, 66, 67, 68, 69, 70, 71, 72, 73, 74, 75, 76, 77, 78, 79, 80, 81, 82, 83] (by decide +kernel) (by decide +kernel)
set_option maxRecDepth 20000 in
theorem gX10_takes_X10_decodes : GoodIn wsX10_takes (wsV RX10 170 RX10 yX10_decodes wsX10_decodes) := goodIn_app (goodIn_of _ (by decide +kernel)) ggX10_takes_X10_decodes
theorem dX10_takes_0 : decode cX10_takes 0 = .ok (.aload_n 0, 1) := by decide +kernel
theorem dX10_takes_1 : decode cX10_takes 1 = .ok (.getfield 37, 3) := by decide +kernel
theorem dX10_takes_4 : decode cX10_takes 4 = .ok (.aload_n 0, 1) := by decide +kernel
theorem dX10_takes_5 : decode cX10_takes 5 = .ok (.getfield 164, 3) := by decide +kernel
theorem dX10_takes_8 : decode cX10_takes 8 = .ok (.iload_n 1, 1) := by decide +kernel
theorem dX10_takes_9 : decode cX10_takes 9 = .ok (.iastore, 1) := by decide +kernel
theorem dX10_takes_10 : decode cX10_takes 10 = .ok (.aload_n 0, 1) := by decide +kernel
theorem dX10_takes_11 : decode cX10_takes 11 = .ok (.dup, 1) := by decide +kernel
theorem dX10_takes_12 : decode cX10_takes 12 = .ok (.getfield 164, 3) := by decide +kernel
theorem dX10_takes_15 : decode cX10_takes 15 = .ok (.iconst 1, 1) := by decide +kernel
theorem dX10_takes_16 : decode cX10_takes 16 = .ok (.iadd, 1) := by decide +kernel
theorem dX10_takes_17 : decode cX10_takes 17 = .ok (.putfield 164, 3) := by decide +kernel
theorem dX10_takes_20 : decode cX10_takes 20 = .ok (.aload_n 0, 1) := by decide +kernel
theorem dX10_takes_21 : decode cX10_takes 21 = .ok (.getfield 151, 3) := by decide +kernel
theorem dX10_takes_24 : decode cX10_takes 24 = .ok (.ifCond .ne 59, 3) := by decide +kernel
theorem dX10_takes_27 : decode cX10_takes 27 = .ok (.aload_n 0, 1) := by decide +kernel
theorem dX10_takes_28 : decode cX10_takes 28 = .ok (.getfield 164, 3) := by decide +kernel
theorem dX10_takes_31 : decode cX10_takes 31 = .ok (.bipush 8, 2) := by decide +kernel
theorem dX10_takes_33 : decode cX10_takes 33 = .ok (.if_icmp .lt 48, 3) := by decide +kernel
theorem dX10_takes_36 : decode cX10_takes 36 = .ok (.aload_n 0, 1) := by decide +kernel
theorem dX10_takes_37 : decode cX10_takes 37 = .ok (.aload_n 0, 1) := by decide +kernel
theorem dX10_takes_38 : decode cX10_takes 38 = .ok (.getfield 164, 3) := by decide +kernel
theorem dX10_takes_41 : decode cX10_takes 41 = .ok (.bipush 8, 2) := by decide +kernel
theorem dX10_takes_43 : decode cX10_takes 43 = .ok (.isub, 1) := by decide +kernel
theorem dX10_takes_44 : decode cX10_takes 44 = .ok (.bipush 8, 2) := by decide +kernel
theorem dX10_takes_46 : decode cX10_takes 46 = .ok (.invokevirtual 130, 3) := by decide +kernel
theorem dX10_takes_49 : decode cX10_takes 49 = .ok (.sipush 184, 3) := by decide +kernel
theorem dX10_takes_52 : decode cX10_takes 52 = .ok (.if_icmp .ne 29, 3) := by decide +kernel
theorem dX10_takes_55 : decode cX10_takes 55 = .ok (.aload_n 0, 1) := by decide +kernel
theorem dX10_takes_56 : decode cX10_takes 56 = .ok (.iconst 1, 1) := by decide +kernel
theorem dX10_takes_57 : decode cX10_takes 57 = .ok (.putfield 151, 3) := by decide +kernel
theorem dX10_takes_60 : decode cX10_takes 60 = .ok (.aload_n 0, 1) := by decide +kernel
theorem dX10_takes_61 : decode cX10_takes 61 = .ok (.iconst 1, 1) := by decide +kernel
theorem dX10_takes_62 : decode cX10_takes 62 = .ok (.putfield 154, 3) := by decide +kernel
theorem dX10_takes_65 : decode cX10_takes 65 = .ok (.aload_n 0, 1) := by decide +kernel
theorem dX10_takes_66 : decode cX10_takes 66 = .ok (.aload_n 0, 1) := by decide +kernel
theorem dX10_takes_67 : decode cX10_takes 67 = .ok (.getfield 164, 3) := by decide +kernel
theorem dX10_takes_70 : decode cX10_takes 70 = .ok (.bipush 8, 2) := by decide +kernel
theorem dX10_takes_72 : decode cX10_takes 72 = .ok (.isub, 1) := by decide +kernel
theorem dX10_takes_73 : decode cX10_takes 73 = .ok (.putfield 75, 3) := by decide +kernel
theorem dX10_takes_76 : decode cX10_takes 76 = .ok (.aload_n 0, 1) := by decide +kernel
theorem dX10_takes_77 : decode cX10_takes 77 = .ok (.iconst 0, 1) := by decide +kernel
theorem dX10_takes_78 : decode cX10_takes 78 = .ok (.putfield 160, 3) := by decide +kernel
theorem dX10_takes_81 : decode cX10_takes 81 = .ok (.iconst 0, 1) := by decide +kernel
theorem dX10_takes_82 : decode cX10_takes 82 = .ok (.ireturn, 1) := by decide +kernel
theorem dX10_takes_83 : decode cX10_takes 83 = .ok (.aload_n 0, 1) := by decide +kernel
theorem dX10_takes_84 : decode cX10_takes 84 = .ok (.getfield 164, 3) := by decide +kernel
theorem dX10_takes_87 : decode cX10_takes 87 = .ok (.aload_n 0, 1) := by decide +kernel
theorem dX10_takes_88 : decode cX10_takes 88 = .ok (.getfield 75, 3) := by decide +kernel
theorem dX10_takes_91 : decode cX10_takes 91 = .ok (.isub, 1) := by decide +kernel
theorem dX10_takes_92 : decode cX10_takes 92 = .ok (.bipush 72, 2) := by decide +kernel
theorem dX10_takes_94 : decode cX10_takes 94 = .ok (.if_icmp .ne 20, 3) := by decide +kernel
theorem dX10_takes_97 : decode cX10_takes 97 = .ok (.aload_n 0, 1) := by decide +kernel
theorem dX10_takes_98 : decode cX10_takes 98 = .ok (.dup, 1) := by decide +kernel
theorem dX10_takes_99 : decode cX10_takes 99 = .ok (.getfield 75, 3) := by decide +kernel
theorem dX10_takes_102 : decode cX10_takes 102 = .ok (.bipush 64, 2) := by decide +kernel
theorem dX10_takes_104 : decode cX10_takes 104 = .ok (.iadd, 1) := by decide +kernel
theorem dX10_takes_105 : decode cX10_takes 105 = .ok (.putfield 75, 3) := by decide +kernel
theorem dX10_takes_108 : decode cX10_takes 108 = .ok (.aload_n 0, 1) := by decide +kernel
theorem dX10_takes_109 : decode cX10_takes 109 = .ok (.invokevirtual 167, 3) := by decide +kernel
theorem dX10_takes_112 : decode cX10_takes 112 = .ok (.iconst 0, 1) := by decide +kernel
theorem dX10_takes_113 : decode cX10_takes 113 = .ok (.ireturn, 1) := by decide +kernel
theorem dX10_takes_114 : decode cX10_takes 114 = .ok (.aload_n 0, 1) := by decide +kernel
theorem dX10_takes_115 : decode cX10_takes 115 = .ok (.getfield 164, 3) := by decide +kernel
theorem dX10_takes_118 : decode cX10_takes 118 = .ok (.aload_n 0, 1) := by decide +kernel
theorem dX10_takes_119 : decode cX10_takes 119 = .ok (.getfield 75, 3) := by decide +kernel
theorem dX10_takes_122 : decode cX10_takes 122 = .ok (.isub, 1) := by decide +kernel
theorem dX10_takes_123 : decode cX10_takes 123 = .ok (.bipush 64, 2) := by decide +kernel
theorem dX10_takes_125 : decode cX10_takes 125 = .ok (.if_icmp .ne 17, 3) := by decide +kernel
theorem dX10_takes_128 : decode cX10_takes 128 = .ok (.aload_n 0, 1) := by decide +kernel
theorem dX10_takes_129 : decode cX10_takes 129 = .ok (.getfield 160, 3) := by decide +kernel
theorem dX10_takes_132 : decode cX10_takes 132 = .ok (.ifCond .eq 10, 3) := by decide +kernel
theorem dX10_takes_135 : decode cX10_takes 135 = .ok (.aload_n 0, 1) := by decide +kernel
theorem dX10_takes_136 : decode cX10_takes 136 = .ok (.invokevirtual 170, 3) := by decide +kernel
theorem dX10_takes_139 : decode cX10_takes 139 = .ok (.goto 4, 3) := by decide +kernel
end
section
theorem dX10_takes_142 : decode cX10_takes 142 = .ok (.iconst 0, 1) := by decide +kernel
theorem dX10_takes_143 : decode cX10_takes 143 = .ok (.ireturn, 1) := by decide +kernel
set_option maxRecDepth 20000 in
theorem ggX10_receive_X10_isIn : GoodIn wsX10_receive wsX10_isIn := goodIn_r _ [6] (by decide +kernel) (by decide +kernel)
set_option maxRecDepth 20000 in
theorem gX10_receive_X10_isIn : GoodIn wsX10_receive (va_wsS RX10 84 yX10_isIn wsX10_isIn) := goodIn_app (goodIn_of _ (by decide +kernel)) ggX10_receive_X10_isIn
set_option maxRecDepth 20000 in
theorem ggX10_receive_X10_can : GoodIn wsX10_receive wsX10_can := goodIn_r _ [10, 11, 67, 68, 69, 70, 71, 72, 73, 74, 75, 76, 77, 78, 79, 80, 81, 82, 83, 84, 85, 86, 87, 88, 89, 90, 91, 92, 93, 94, 95, 96, 97, 98, 99, 100, 101] (by decide +kernel) (by decide +kernel)
set_option maxRecDepth 20000 in
theorem gX10_receive_X10_can : GoodIn wsX10_receive (wsV RX10 107 RX10 yX10_can wsX10_can) := goodIn_app (goodIn_of _ (by decide +kernel)) ggX10_receive_X10_can
set_option maxRecDepth 20000 in
theorem ggX10_receive_X10_takes : GoodIn wsX10_receive wsX10_takes := goodIn_r _ [15, 16, 17, 18, 19, 20, 21, 22, 23, 24, 5, 25, 26, 27, 28, 29, 30, 31, 32, 33, 34, 35, 36, 37, 38, 39, 40, 41, 42, 43, 44, 45, 46, 47, 48, 49, 50, 51, 52, 53, 54, 55, 56, 57, 58, 59, 60, 61, 62, 67, 68, 69, 70, 71, 72, 73, 74, 75, 76, 77, 78, 79, 80, 81, 82, 83, 84, 85, 86, 87, 88, 89, 90, 91, 92, 93, 94, 95, 96, 97, 98, 99, 100, 101] (by decide +kernel) (by decide +kernel)
set_option maxRecDepth 20000 in
theorem gX10_receive_X10_takes : GoodIn wsX10_receive (wsV RX10 174 RX10 yX10_takes wsX10_takes) := goodIn_app (goodIn_of _ (by decide +kernel)) ggX10_receive_X10_takes
set_option maxRecDepth 20000 in
theorem ggX10_receive_X10_drop : GoodIn wsX10_receive wsX10_drop := goodIn_r _ [66, 1, 2, 67, 68, 69, 70, 71, 72, 73, 74, 75, 76, 77, 78, 79, 80, 81, 82, 83, 84, 85, 86, 87, 88, 89, 90, 91, 92, 93, 94, 95, 96, 97, 98, 99, 100, 101] (by decide +kernel) (by decide +kernel)
set_option maxRecDepth 20000 in
theorem gX10_receive_X10_drop : GoodIn wsX10_receive (wsV RX10 126 RX10 yX10_drop wsX10_drop) := goodIn_app (goodIn_of _ (by decide +kernel)) ggX10_receive_X10_drop
theorem dX10_receive_0 : decode cX10_receive 0 = .ok (.aload_n 0, 1) := by decide +kernel
theorem dX10_receive_1 : decode cX10_receive 1 = .ok (.iload_n 1, 1) := by decide +kernel
theorem dX10_receive_2 : decode cX10_receive 2 = .ok (.iconst 1, 1) := by decide +kernel
theorem dX10_receive_3 : decode cX10_receive 3 = .ok (.sipush 4096, 3) := by decide +kernel
theorem dX10_receive_6 : decode cX10_receive 6 = .ok (.invokestatic 84, 3) := by decide +kernel
theorem dX10_receive_9 : decode cX10_receive 9 = .ok (.ifCond .eq 7, 3) := by decide +kernel
theorem dX10_receive_12 : decode cX10_receive 12 = .ok (.iconst 0, 1) := by decide +kernel
theorem dX10_receive_13 : decode cX10_receive 13 = .ok (.goto 4, 3) := by decide +kernel
theorem dX10_receive_16 : decode cX10_receive 16 = .ok (.iconst 1, 1) := by decide +kernel
theorem dX10_receive_17 : decode cX10_receive 17 = .ok (.invokevirtual 107, 3) := by decide +kernel
theorem dX10_receive_20 : decode cX10_receive 20 = .ok (.ifCond .ne 5, 3) := by decide +kernel
theorem dX10_receive_23 : decode cX10_receive 23 = .ok (.iconst 0, 1) := by decide +kernel
theorem dX10_receive_24 : decode cX10_receive 24 = .ok (.ireturn, 1) := by decide +kernel
theorem dX10_receive_25 : decode cX10_receive 25 = .ok (.iload_n 1, 1) := by decide +kernel
theorem dX10_receive_26 : decode cX10_receive 26 = .ok (.aload_n 0, 1) := by decide +kernel
theorem dX10_receive_27 : decode cX10_receive 27 = .ok (.getfield 117, 3) := by decide +kernel
theorem dX10_receive_30 : decode cX10_receive 30 = .ok (.if_icmp .ge 7, 3) := by decide +kernel
theorem dX10_receive_33 : decode cX10_receive 33 = .ok (.iload_n 1, 1) := by decide +kernel
theorem dX10_receive_34 : decode cX10_receive 34 = .ok (.goto 7, 3) := by decide +kernel
theorem dX10_receive_37 : decode cX10_receive 37 = .ok (.aload_n 0, 1) := by decide +kernel
theorem dX10_receive_38 : decode cX10_receive 38 = .ok (.getfield 117, 3) := by decide +kernel
theorem dX10_receive_41 : decode cX10_receive 41 = .ok (.istore_n 2, 1) := by decide +kernel
theorem dX10_receive_42 : decode cX10_receive 42 = .ok (.iconst 0, 1) := by decide +kernel
theorem dX10_receive_43 : decode cX10_receive 43 = .ok (.istore_n 3, 1) := by decide +kernel
theorem dX10_receive_44 : decode cX10_receive 44 = .ok (.iconst 0, 1) := by decide +kernel
theorem dX10_receive_45 : decode cX10_receive 45 = .ok (.istore 4, 2) := by decide +kernel
theorem dX10_receive_47 : decode cX10_receive 47 = .ok (.iload 4, 2) := by decide +kernel
theorem dX10_receive_49 : decode cX10_receive 49 = .ok (.iload_n 2, 1) := by decide +kernel
theorem dX10_receive_50 : decode cX10_receive 50 = .ok (.if_icmp .ge 23, 3) := by decide +kernel
theorem dX10_receive_53 : decode cX10_receive 53 = .ok (.iload_n 3, 1) := by decide +kernel
theorem dX10_receive_54 : decode cX10_receive 54 = .ok (.aload_n 0, 1) := by decide +kernel
theorem dX10_receive_55 : decode cX10_receive 55 = .ok (.aload_n 0, 1) := by decide +kernel
theorem dX10_receive_56 : decode cX10_receive 56 = .ok (.getfield 34, 3) := by decide +kernel
theorem dX10_receive_59 : decode cX10_receive 59 = .ok (.iload 4, 2) := by decide +kernel
theorem dX10_receive_61 : decode cX10_receive 61 = .ok (.iaload, 1) := by decide +kernel
theorem dX10_receive_62 : decode cX10_receive 62 = .ok (.invokevirtual 174, 3) := by decide +kernel
theorem dX10_receive_65 : decode cX10_receive 65 = .ok (.iadd, 1) := by decide +kernel
theorem dX10_receive_66 : decode cX10_receive 66 = .ok (.istore_n 3, 1) := by decide +kernel
theorem dX10_receive_67 : decode cX10_receive 67 = .ok (.iinc 4 1, 3) := by decide +kernel
theorem dX10_receive_70 : decode cX10_receive 70 = .ok (.goto (-23), 3) := by decide +kernel
theorem dX10_receive_73 : decode cX10_receive 73 = .ok (.aload_n 0, 1) := by decide +kernel
theorem dX10_receive_74 : decode cX10_receive 74 = .ok (.iconst 0, 1) := by decide +kernel
theorem dX10_receive_75 : decode cX10_receive 75 = .ok (.iload_n 2, 1) := by decide +kernel
theorem dX10_receive_76 : decode cX10_receive 76 = .ok (.invokevirtual 126, 3) := by decide +kernel
theorem dX10_receive_79 : decode cX10_receive 79 = .ok (.iload_n 3, 1) := by decide +kernel
theorem dX10_receive_80 : decode cX10_receive 80 = .ok (.ireturn, 1) := by decide +kernel
theorem dX10_state_0 : decode cX10_state 0 = .ok (.aload_n 0, 1) := by decide +kernel
theorem dX10_state_1 : decode cX10_state 1 = .ok (.iconst 0, 1) := by decide +kernel
theorem dX10_state_2 : decode cX10_state 2 = .ok (.putfield 78, 3) := by decide +kernel
theorem dX10_state_5 : decode cX10_state 5 = .ok (.aload_n 0, 1) := by decide +kernel
theorem dX10_state_6 : decode cX10_state 6 = .ok (.getfield 151, 3) := by decide +kernel
theorem dX10_state_9 : decode cX10_state 9 = .ok (.ireturn, 1) := by decide +kernel
theorem dX10_taken_0 : decode cX10_taken 0 = .ok (.aload_n 0, 1) := by decide +kernel
theorem dX10_taken_1 : decode cX10_taken 1 = .ok (.iconst 0, 1) := by decide +kernel
theorem dX10_taken_2 : decode cX10_taken 2 = .ok (.putfield 78, 3) := by decide +kernel
theorem dX10_taken_5 : decode cX10_taken 5 = .ok (.aload_n 0, 1) := by decide +kernel
theorem dX10_taken_6 : decode cX10_taken 6 = .ok (.getfield 164, 3) := by decide +kernel
theorem dX10_taken_9 : decode cX10_taken 9 = .ok (.ireturn, 1) := by decide +kernel
theorem dX10_frames_0 : decode cX10_frames 0 = .ok (.aload_n 0, 1) := by decide +kernel
theorem dX10_frames_1 : decode cX10_frames 1 = .ok (.iconst 0, 1) := by decide +kernel
theorem dX10_frames_2 : decode cX10_frames 2 = .ok (.putfield 78, 3) := by decide +kernel
theorem dX10_frames_5 : decode cX10_frames 5 = .ok (.aload_n 0, 1) := by decide +kernel
theorem dX10_frames_6 : decode cX10_frames 6 = .ok (.getfield 145, 3) := by decide +kernel
theorem dX10_frames_9 : decode cX10_frames 9 = .ok (.ireturn, 1) := by decide +kernel
theorem dX10_lost_0 : decode cX10_lost 0 = .ok (.aload_n 0, 1) := by decide +kernel
theorem dX10_lost_1 : decode cX10_lost 1 = .ok (.iconst 0, 1) := by decide +kernel
theorem dX10_lost_2 : decode cX10_lost 2 = .ok (.putfield 78, 3) := by decide +kernel
theorem dX10_lost_5 : decode cX10_lost 5 = .ok (.aload_n 0, 1) := by decide +kernel
theorem dX10_lost_6 : decode cX10_lost 6 = .ok (.getfield 142, 3) := by decide +kernel
theorem dX10_lost_9 : decode cX10_lost 9 = .ok (.ireturn, 1) := by decide +kernel
theorem dX10_repeats_0 : decode cX10_repeats 0 = .ok (.aload_n 0, 1) := by decide +kernel
theorem dX10_repeats_1 : decode cX10_repeats 1 = .ok (.iconst 0, 1) := by decide +kernel
theorem dX10_repeats_2 : decode cX10_repeats 2 = .ok (.putfield 78, 3) := by decide +kernel
theorem dX10_repeats_5 : decode cX10_repeats 5 = .ok (.aload_n 0, 1) := by decide +kernel
theorem dX10_repeats_6 : decode cX10_repeats 6 = .ok (.getfield 139, 3) := by decide +kernel
theorem dX10_repeats_9 : decode cX10_repeats 9 = .ok (.ireturn, 1) := by decide +kernel
set_option maxRecDepth 20000 in
theorem ggX10_number_X10_can : GoodIn wsX10_number wsX10_can := goodIn_r _ [7, 8, 9, 10, 11, 12, 13, 14, 15, 16, 17, 18, 19, 20, 21, 22, 23, 24, 25, 26, 27, 28, 29, 30, 31, 32, 33, 34, 35, 36, 37, 38, 39, 40, 41, 42, 43] (by decide +kernel) (by decide +kernel)
set_option maxRecDepth 20000 in
theorem gX10_number_X10_can : GoodIn wsX10_number (wsV RX10 107 RX10 yX10_can wsX10_can) := goodIn_app (goodIn_of _ (by decide +kernel)) ggX10_number_X10_can
theorem dX10_number_0 : decode cX10_number 0 = .ok (.aload_n 0, 1) := by decide +kernel
theorem dX10_number_1 : decode cX10_number 1 = .ok (.aload_n 0, 1) := by decide +kernel
theorem dX10_number_2 : decode cX10_number 2 = .ok (.getfield 145, 3) := by decide +kernel
theorem dX10_number_5 : decode cX10_number 5 = .ok (.ifCond .ne 7, 3) := by decide +kernel
theorem dX10_number_8 : decode cX10_number 8 = .ok (.iconst 1, 1) := by decide +kernel
theorem dX10_number_9 : decode cX10_number 9 = .ok (.goto 4, 3) := by decide +kernel
theorem dX10_number_12 : decode cX10_number 12 = .ok (.iconst 0, 1) := by decide +kernel
theorem dX10_number_13 : decode cX10_number 13 = .ok (.invokevirtual 107, 3) := by decide +kernel
theorem dX10_number_16 : decode cX10_number 16 = .ok (.ifCond .eq 10, 3) := by decide +kernel
theorem dX10_number_19 : decode cX10_number 19 = .ok (.aload_n 0, 1) := by decide +kernel
theorem dX10_number_20 : decode cX10_number 20 = .ok (.getfield 136, 3) := by decide +kernel
theorem dX10_number_23 : decode cX10_number 23 = .ok (.goto 4, 3) := by decide +kernel
theorem dX10_number_26 : decode cX10_number 26 = .ok (.iconst 0, 1) := by decide +kernel
theorem dX10_number_27 : decode cX10_number 27 = .ok (.ireturn, 1) := by decide +kernel
set_option maxRecDepth 20000 in
theorem ggX10_hasSample_X10_isPoint : GoodIn wsX10_hasSample wsX10_isPoint := goodIn_r _ [6, 7, 8, 9, 5, 10, 16, 17, 18, 19, 20, 21, 22, 23, 24, 25, 26, 27, 28, 29, 30, 31, 32, 33, 34, 35, 36, 37, 38, 39, 40, 41, 42, 43, 44, 45, 46, 47, 48, 49, 50] (by decide +kernel) (by decide +kernel)
set_option maxRecDepth 20000 in
theorem gX10_hasSample_X10_isPoint : GoodIn wsX10_hasSample (wsV RX10 111 RX10 yX10_isPoint wsX10_isPoint) := goodIn_app (goodIn_of _ (by decide +kernel)) ggX10_hasSample_X10_isPoint
set_option maxRecDepth 20000 in
theorem ggX10_hasSample_X10_can : GoodIn wsX10_hasSample wsX10_can := goodIn_r _ [14, 15, 16, 17, 18, 19, 20, 21, 22, 23, 24, 25, 26, 27, 28, 29, 30, 31, 32, 33, 34, 35, 36, 37, 38, 39, 40, 41, 42, 43, 44, 45, 46, 47, 48, 49, 50] (by decide +kernel) (by decide +kernel)
set_option maxRecDepth 20000 in
theorem gX10_hasSample_X10_can : GoodIn wsX10_hasSample (wsV RX10 107 RX10 yX10_can wsX10_can) := goodIn_app (goodIn_of _ (by decide +kernel)) ggX10_hasSample_X10_can
theorem dX10_hasSample_0 : decode cX10_hasSample 0 = .ok (.aload_n 0, 1) := by decide +kernel
theorem dX10_hasSample_1 : decode cX10_hasSample 1 = .ok (.aload_n 0, 1) := by decide +kernel
theorem dX10_hasSample_2 : decode cX10_hasSample 2 = .ok (.iload_n 1, 1) := by decide +kernel
theorem dX10_hasSample_3 : decode cX10_hasSample 3 = .ok (.invokevirtual 111, 3) := by decide +kernel
theorem dX10_hasSample_6 : decode cX10_hasSample 6 = .ok (.ifCond .ne 7, 3) := by decide +kernel
theorem dX10_hasSample_9 : decode cX10_hasSample 9 = .ok (.iconst 1, 1) := by decide +kernel
theorem dX10_hasSample_10 : decode cX10_hasSample 10 = .ok (.goto 17, 3) := by decide +kernel
theorem dX10_hasSample_13 : decode cX10_hasSample 13 = .ok (.aload_n 0, 1) := by decide +kernel
theorem dX10_hasSample_14 : decode cX10_hasSample 14 = .ok (.getfield 46, 3) := by decide +kernel
theorem dX10_hasSample_17 : decode cX10_hasSample 17 = .ok (.iload_n 1, 1) := by decide +kernel
theorem dX10_hasSample_18 : decode cX10_hasSample 18 = .ok (.iaload, 1) := by decide +kernel
theorem dX10_hasSample_19 : decode cX10_hasSample 19 = .ok (.ifCond .ne 7, 3) := by decide +kernel
theorem dX10_hasSample_22 : decode cX10_hasSample 22 = .ok (.iconst 2, 1) := by decide +kernel
theorem dX10_hasSample_23 : decode cX10_hasSample 23 = .ok (.goto 4, 3) := by decide +kernel
theorem dX10_hasSample_26 : decode cX10_hasSample 26 = .ok (.iconst 0, 1) := by decide +kernel
theorem dX10_hasSample_27 : decode cX10_hasSample 27 = .ok (.invokevirtual 107, 3) := by decide +kernel
theorem dX10_hasSample_30 : decode cX10_hasSample 30 = .ok (.ireturn, 1) := by decide +kernel
set_option maxRecDepth 20000 in
theorem ggX10_value_X10_hasSample : GoodIn wsX10_value wsX10_hasSample := goodIn_r _ [6, 7, 8, 9, 10, 5, 11, 12, 13, 14, 15, 16, 17, 18, 19, 20, 21, 22, 23, 24, 25, 26, 27, 28, 29, 30, 31, 32, 33, 34, 35, 36, 37, 38, 39, 40, 41, 42, 43, 44, 45, 46, 47, 48, 49, 50, 51, 52, 53, 54, 55] (by decide +kernel) (by decide +kernel)
set_option maxRecDepth 20000 in
theorem gX10_value_X10_hasSample : GoodIn wsX10_value (wsV RX10 178 RX10 yX10_hasSample wsX10_hasSample) := goodIn_app (goodIn_of _ (by decide +kernel)) ggX10_value_X10_hasSample
theorem dX10_value_0 : decode cX10_value 0 = .ok (.aload_n 0, 1) := by decide +kernel
theorem dX10_value_1 : decode cX10_value 1 = .ok (.iload_n 1, 1) := by decide +kernel
theorem dX10_value_2 : decode cX10_value 2 = .ok (.invokevirtual 178, 3) := by decide +kernel
theorem dX10_value_5 : decode cX10_value 5 = .ok (.ifCond .eq 12, 3) := by decide +kernel
theorem dX10_value_8 : decode cX10_value 8 = .ok (.aload_n 0, 1) := by decide +kernel
theorem dX10_value_9 : decode cX10_value 9 = .ok (.getfield 40, 3) := by decide +kernel
theorem dX10_value_12 : decode cX10_value 12 = .ok (.iload_n 1, 1) := by decide +kernel
theorem dX10_value_13 : decode cX10_value 13 = .ok (.iaload, 1) := by decide +kernel
theorem dX10_value_14 : decode cX10_value 14 = .ok (.goto 4, 3) := by decide +kernel
theorem dX10_value_17 : decode cX10_value 17 = .ok (.iconst 0, 1) := by decide +kernel
theorem dX10_value_18 : decode cX10_value 18 = .ok (.ireturn, 1) := by decide +kernel
set_option maxRecDepth 20000 in
theorem ggX10_time_X10_hasSample : GoodIn wsX10_time wsX10_hasSample := goodIn_r _ [6, 7, 8, 9, 10, 5, 11, 12, 13, 14, 15, 16, 17, 18, 19, 20, 21, 22, 23, 24, 25, 26, 27, 28, 29, 30, 31, 32, 33, 34, 35, 36, 37, 38, 39, 40, 41, 42, 43, 44, 45, 46, 47, 48, 49, 50, 51, 52, 53, 54, 55] (by decide +kernel) (by decide +kernel)
set_option maxRecDepth 20000 in
theorem gX10_time_X10_hasSample : GoodIn wsX10_time (wsV RX10 178 RX10 yX10_hasSample wsX10_hasSample) := goodIn_app (goodIn_of _ (by decide +kernel)) ggX10_time_X10_hasSample
theorem dX10_time_0 : decode cX10_time 0 = .ok (.aload_n 0, 1) := by decide +kernel
theorem dX10_time_1 : decode cX10_time 1 = .ok (.iload_n 1, 1) := by decide +kernel
theorem dX10_time_2 : decode cX10_time 2 = .ok (.invokevirtual 178, 3) := by decide +kernel
theorem dX10_time_5 : decode cX10_time 5 = .ok (.ifCond .eq 12, 3) := by decide +kernel
theorem dX10_time_8 : decode cX10_time 8 = .ok (.aload_n 0, 1) := by decide +kernel
theorem dX10_time_9 : decode cX10_time 9 = .ok (.getfield 43, 3) := by decide +kernel
theorem dX10_time_12 : decode cX10_time 12 = .ok (.iload_n 1, 1) := by decide +kernel
theorem dX10_time_13 : decode cX10_time 13 = .ok (.iaload, 1) := by decide +kernel
theorem dX10_time_14 : decode cX10_time 14 = .ok (.goto 4, 3) := by decide +kernel
theorem dX10_time_17 : decode cX10_time 17 = .ok (.iconst 0, 1) := by decide +kernel
theorem dX10_time_18 : decode cX10_time 18 = .ok (.ireturn, 1) := by decide +kernel
set_option maxRecDepth 20000 in
theorem ggX10_samples_X10_isPoint : GoodIn wsX10_samples wsX10_isPoint := goodIn_r _ [6, 7, 8, 9, 5, 10, 16, 17, 18, 19, 20, 21, 22, 23, 24, 25, 26, 27, 28, 29, 30, 31, 32, 33, 34, 35, 36, 37, 38, 39, 40, 41, 42, 43, 44, 45, 46, 47, 48, 49, 50] (by decide +kernel) (by decide +kernel)
set_option maxRecDepth 20000 in
theorem gX10_samples_X10_isPoint : GoodIn wsX10_samples (wsV RX10 111 RX10 yX10_isPoint wsX10_isPoint) := goodIn_app (goodIn_of _ (by decide +kernel)) ggX10_samples_X10_isPoint
set_option maxRecDepth 20000 in
theorem ggX10_samples_X10_can : GoodIn wsX10_samples wsX10_can := goodIn_r _ [14, 15, 16, 17, 18, 19, 20, 21, 22, 23, 24, 25, 26, 27, 28, 29, 30, 31, 32, 33, 34, 35, 36, 37, 38, 39, 40, 41, 42, 43, 44, 45, 46, 47, 48, 49, 50] (by decide +kernel) (by decide +kernel)
set_option maxRecDepth 20000 in
theorem gX10_samples_X10_can : GoodIn wsX10_samples (wsV RX10 107 RX10 yX10_can wsX10_can) := goodIn_app (goodIn_of _ (by decide +kernel)) ggX10_samples_X10_can
theorem dX10_samples_0 : decode cX10_samples 0 = .ok (.aload_n 0, 1) := by decide +kernel
theorem dX10_samples_1 : decode cX10_samples 1 = .ok (.aload_n 0, 1) := by decide +kernel
theorem dX10_samples_2 : decode cX10_samples 2 = .ok (.iload_n 1, 1) := by decide +kernel
theorem dX10_samples_3 : decode cX10_samples 3 = .ok (.invokevirtual 111, 3) := by decide +kernel
theorem dX10_samples_6 : decode cX10_samples 6 = .ok (.ifCond .eq 7, 3) := by decide +kernel
theorem dX10_samples_9 : decode cX10_samples 9 = .ok (.iconst 0, 1) := by decide +kernel
theorem dX10_samples_10 : decode cX10_samples 10 = .ok (.goto 4, 3) := by decide +kernel
theorem dX10_samples_13 : decode cX10_samples 13 = .ok (.iconst 1, 1) := by decide +kernel
theorem dX10_samples_14 : decode cX10_samples 14 = .ok (.invokevirtual 107, 3) := by decide +kernel
theorem dX10_samples_17 : decode cX10_samples 17 = .ok (.ifCond .eq 12, 3) := by decide +kernel
theorem dX10_samples_20 : decode cX10_samples 20 = .ok (.aload_n 0, 1) := by decide +kernel
theorem dX10_samples_21 : decode cX10_samples 21 = .ok (.getfield 46, 3) := by decide +kernel
theorem dX10_samples_24 : decode cX10_samples 24 = .ok (.iload_n 1, 1) := by decide +kernel
theorem dX10_samples_25 : decode cX10_samples 25 = .ok (.iaload, 1) := by decide +kernel
theorem dX10_samples_26 : decode cX10_samples 26 = .ok (.goto 4, 3) := by decide +kernel
theorem dX10_samples_29 : decode cX10_samples 29 = .ok (.iconst 0, 1) := by decide +kernel
theorem dX10_samples_30 : decode cX10_samples 30 = .ok (.ireturn, 1) := by decide +kernel
set_option maxRecDepth 20000 in
theorem ggX10_missing_X10_isPoint : GoodIn wsX10_missing wsX10_isPoint := goodIn_r _ [6, 7, 8, 9, 5, 10, 16, 17, 18, 19, 20, 21, 22, 23, 24, 25, 26, 27, 28, 29, 30, 31, 32, 33, 34, 35, 36, 37, 38, 39, 40, 41, 42, 43, 44, 45, 46, 47, 48, 49, 50] (by decide +kernel) (by decide +kernel)
set_option maxRecDepth 20000 in
theorem gX10_missing_X10_isPoint : GoodIn wsX10_missing (wsV RX10 111 RX10 yX10_isPoint wsX10_isPoint) := goodIn_app (goodIn_of _ (by decide +kernel)) ggX10_missing_X10_isPoint
set_option maxRecDepth 20000 in
theorem ggX10_missing_X10_can : GoodIn wsX10_missing wsX10_can := goodIn_r _ [14, 15, 16, 17, 18, 19, 20, 21, 22, 23, 24, 25, 26, 27, 28, 29, 30, 31, 32, 33, 34, 35, 36, 37, 38, 39, 40, 41, 42, 43, 44, 45, 46, 47, 48, 49, 50] (by decide +kernel) (by decide +kernel)
set_option maxRecDepth 20000 in
theorem gX10_missing_X10_can : GoodIn wsX10_missing (wsV RX10 107 RX10 yX10_can wsX10_can) := goodIn_app (goodIn_of _ (by decide +kernel)) ggX10_missing_X10_can
theorem dX10_missing_0 : decode cX10_missing 0 = .ok (.aload_n 0, 1) := by decide +kernel
theorem dX10_missing_1 : decode cX10_missing 1 = .ok (.aload_n 0, 1) := by decide +kernel
theorem dX10_missing_2 : decode cX10_missing 2 = .ok (.iload_n 1, 1) := by decide +kernel
theorem dX10_missing_3 : decode cX10_missing 3 = .ok (.invokevirtual 111, 3) := by decide +kernel
theorem dX10_missing_6 : decode cX10_missing 6 = .ok (.ifCond .eq 7, 3) := by decide +kernel
theorem dX10_missing_9 : decode cX10_missing 9 = .ok (.iconst 0, 1) := by decide +kernel
theorem dX10_missing_10 : decode cX10_missing 10 = .ok (.goto 4, 3) := by decide +kernel
theorem dX10_missing_13 : decode cX10_missing 13 = .ok (.iconst 1, 1) := by decide +kernel
theorem dX10_missing_14 : decode cX10_missing 14 = .ok (.invokevirtual 107, 3) := by decide +kernel
theorem dX10_missing_17 : decode cX10_missing 17 = .ok (.ifCond .eq 12, 3) := by decide +kernel
theorem dX10_missing_20 : decode cX10_missing 20 = .ok (.aload_n 0, 1) := by decide +kernel
theorem dX10_missing_21 : decode cX10_missing 21 = .ok (.getfield 49, 3) := by decide +kernel
theorem dX10_missing_24 : decode cX10_missing 24 = .ok (.iload_n 1, 1) := by decide +kernel
theorem dX10_missing_25 : decode cX10_missing 25 = .ok (.iaload, 1) := by decide +kernel
theorem dX10_missing_26 : decode cX10_missing 26 = .ok (.goto 4, 3) := by decide +kernel
theorem dX10_missing_29 : decode cX10_missing 29 = .ok (.iconst 0, 1) := by decide +kernel
theorem dX10_missing_30 : decode cX10_missing 30 = .ok (.ireturn, 1) := by decide +kernel
set_option maxRecDepth 20000 in
theorem ggX10_isOperand_X10_isIn : GoodIn wsX10_isOperand wsX10_isIn := goodIn_r _ [4] (by decide +kernel) (by decide +kernel)
set_option maxRecDepth 20000 in
theorem gX10_isOperand_X10_isIn : GoodIn wsX10_isOperand (va_wsS RX10 84 yX10_isIn wsX10_isIn) := goodIn_app (goodIn_of _ (by decide +kernel)) ggX10_isOperand_X10_isIn
theorem dX10_isOperand_0 : decode cX10_isOperand 0 = .ok (.iload_n 0, 1) := by decide +kernel
theorem dX10_isOperand_1 : decode cX10_isOperand 1 = .ok (.iconst 0, 1) := by decide +kernel
theorem dX10_isOperand_2 : decode cX10_isOperand 2 = .ok (.bipush 11, 2) := by decide +kernel
theorem dX10_isOperand_4 : decode cX10_isOperand 4 = .ok (.invokestatic 84, 3) := by decide +kernel
theorem dX10_isOperand_7 : decode cX10_isOperand 7 = .ok (.ifCond .ne 14, 3) := by decide +kernel
theorem dX10_isOperand_10 : decode cX10_isOperand 10 = .ok (.iload_n 0, 1) := by decide +kernel
theorem dX10_isOperand_11 : decode cX10_isOperand 11 = .ok (.bipush 100, 2) := by decide +kernel
theorem dX10_isOperand_13 : decode cX10_isOperand 13 = .ok (.bipush 107, 2) := by decide +kernel
theorem dX10_isOperand_15 : decode cX10_isOperand 15 = .ok (.invokestatic 84, 3) := by decide +kernel
theorem dX10_isOperand_18 : decode cX10_isOperand 18 = .ok (.ifCond .eq 7, 3) := by decide +kernel
theorem dX10_isOperand_21 : decode cX10_isOperand 21 = .ok (.iconst 1, 1) := by decide +kernel
theorem dX10_isOperand_22 : decode cX10_isOperand 22 = .ok (.goto 4, 3) := by decide +kernel
theorem dX10_isOperand_25 : decode cX10_isOperand 25 = .ok (.iconst 0, 1) := by decide +kernel
theorem dX10_isOperand_26 : decode cX10_isOperand 26 = .ok (.ireturn, 1) := by decide +kernel
theorem dX10_comesTo_0 : decode cX10_comesTo 0 = .ok (.iload_n 1, 1) := by decide +kernel
theorem dX10_comesTo_1 : decode cX10_comesTo 1 = .ok (.bipush 100, 2) := by decide +kernel
theorem dX10_comesTo_3 : decode cX10_comesTo 3 = .ok (.if_icmp .lt 12, 3) := by decide +kernel
theorem dX10_comesTo_6 : decode cX10_comesTo 6 = .ok (.iconst 1, 1) := by decide +kernel
theorem dX10_comesTo_7 : decode cX10_comesTo 7 = .ok (.iload_n 1, 1) := by decide +kernel
theorem dX10_comesTo_8 : decode cX10_comesTo 8 = .ok (.bipush 100, 2) := by decide +kernel
theorem dX10_comesTo_10 : decode cX10_comesTo 10 = .ok (.isub, 1) := by decide +kernel
theorem dX10_comesTo_11 : decode cX10_comesTo 11 = .ok (.ishl, 1) := by decide +kernel
theorem dX10_comesTo_12 : decode cX10_comesTo 12 = .ok (.goto 4, 3) := by decide +kernel
theorem dX10_comesTo_15 : decode cX10_comesTo 15 = .ok (.iconst 0, 1) := by decide +kernel
theorem dX10_comesTo_16 : decode cX10_comesTo 16 = .ok (.iload_n 2, 1) := by decide +kernel
theorem dX10_comesTo_17 : decode cX10_comesTo 17 = .ok (.bipush 100, 2) := by decide +kernel
theorem dX10_comesTo_19 : decode cX10_comesTo 19 = .ok (.if_icmp .lt 12, 3) := by decide +kernel
theorem dX10_comesTo_22 : decode cX10_comesTo 22 = .ok (.iconst 1, 1) := by decide +kernel
theorem dX10_comesTo_23 : decode cX10_comesTo 23 = .ok (.iload_n 2, 1) := by decide +kernel
theorem dX10_comesTo_24 : decode cX10_comesTo 24 = .ok (.bipush 100, 2) := by decide +kernel
theorem dX10_comesTo_26 : decode cX10_comesTo 26 = .ok (.isub, 1) := by decide +kernel
theorem dX10_comesTo_27 : decode cX10_comesTo 27 = .ok (.ishl, 1) := by decide +kernel
theorem dX10_comesTo_28 : decode cX10_comesTo 28 = .ok (.goto 4, 3) := by decide +kernel
theorem dX10_comesTo_31 : decode cX10_comesTo 31 = .ok (.iconst 0, 1) := by decide +kernel
theorem dX10_comesTo_32 : decode cX10_comesTo 32 = .ok (.ior, 1) := by decide +kernel
theorem dX10_comesTo_33 : decode cX10_comesTo 33 = .ok (.istore 4, 2) := by decide +kernel
theorem dX10_comesTo_35 : decode cX10_comesTo 35 = .ok (.iconst 0, 1) := by decide +kernel
theorem dX10_comesTo_36 : decode cX10_comesTo 36 = .ok (.istore 5, 2) := by decide +kernel
theorem dX10_comesTo_38 : decode cX10_comesTo 38 = .ok (.iload 5, 2) := by decide +kernel
theorem dX10_comesTo_40 : decode cX10_comesTo 40 = .ok (.bipush 8, 2) := by decide +kernel
theorem dX10_comesTo_42 : decode cX10_comesTo 42 = .ok (.if_icmp .ge 113, 3) := by decide +kernel
theorem dX10_comesTo_45 : decode cX10_comesTo 45 = .ok (.iconst 0, 1) := by decide +kernel
theorem dX10_comesTo_46 : decode cX10_comesTo 46 = .ok (.istore 6, 2) := by decide +kernel
theorem dX10_comesTo_48 : decode cX10_comesTo 48 = .ok (.iload 6, 2) := by decide +kernel
theorem dX10_comesTo_50 : decode cX10_comesTo 50 = .ok (.bipush 8, 2) := by decide +kernel
theorem dX10_comesTo_52 : decode cX10_comesTo 52 = .ok (.if_icmp .ge 97, 3) := by decide +kernel
theorem dX10_comesTo_55 : decode cX10_comesTo 55 = .ok (.iload 4, 2) := by decide +kernel
theorem dX10_comesTo_57 : decode cX10_comesTo 57 = .ok (.iload 6, 2) := by decide +kernel
theorem dX10_comesTo_59 : decode cX10_comesTo 59 = .ok (.ishr, 1) := by decide +kernel
theorem dX10_comesTo_60 : decode cX10_comesTo 60 = .ok (.iconst 1, 1) := by decide +kernel
theorem dX10_comesTo_61 : decode cX10_comesTo 61 = .ok (.iand, 1) := by decide +kernel
theorem dX10_comesTo_62 : decode cX10_comesTo 62 = .ok (.iconst 1, 1) := by decide +kernel
theorem dX10_comesTo_63 : decode cX10_comesTo 63 = .ok (.if_icmp .ne 80, 3) := by decide +kernel
theorem dX10_comesTo_66 : decode cX10_comesTo 66 = .ok (.aload_n 0, 1) := by decide +kernel
theorem dX10_comesTo_67 : decode cX10_comesTo 67 = .ok (.getfield 52, 3) := by decide +kernel
theorem dX10_comesTo_70 : decode cX10_comesTo 70 = .ok (.iload 6, 2) := by decide +kernel
theorem dX10_comesTo_72 : decode cX10_comesTo 72 = .ok (.iaload, 1) := by decide +kernel
theorem dX10_comesTo_73 : decode cX10_comesTo 73 = .ok (.iconst (-1), 1) := by decide +kernel
theorem dX10_comesTo_74 : decode cX10_comesTo 74 = .ok (.if_icmp .eq 69, 3) := by decide +kernel
theorem dX10_comesTo_77 : decode cX10_comesTo 77 = .ok (.iload 4, 2) := by decide +kernel
theorem dX10_comesTo_79 : decode cX10_comesTo 79 = .ok (.aload_n 0, 1) := by decide +kernel
theorem dX10_comesTo_80 : decode cX10_comesTo 80 = .ok (.getfield 55, 3) := by decide +kernel
theorem dX10_comesTo_83 : decode cX10_comesTo 83 = .ok (.iload 6, 2) := by decide +kernel
theorem dX10_comesTo_85 : decode cX10_comesTo 85 = .ok (.iaload, 1) := by decide +kernel
theorem dX10_comesTo_86 : decode cX10_comesTo 86 = .ok (.bipush 100, 2) := by decide +kernel
theorem dX10_comesTo_88 : decode cX10_comesTo 88 = .ok (.if_icmp .lt 18, 3) := by decide +kernel
theorem dX10_comesTo_91 : decode cX10_comesTo 91 = .ok (.iconst 1, 1) := by decide +kernel
theorem dX10_comesTo_92 : decode cX10_comesTo 92 = .ok (.aload_n 0, 1) := by decide +kernel
theorem dX10_comesTo_93 : decode cX10_comesTo 93 = .ok (.getfield 55, 3) := by decide +kernel
theorem dX10_comesTo_96 : decode cX10_comesTo 96 = .ok (.iload 6, 2) := by decide +kernel
theorem dX10_comesTo_98 : decode cX10_comesTo 98 = .ok (.iaload, 1) := by decide +kernel
theorem dX10_comesTo_99 : decode cX10_comesTo 99 = .ok (.bipush 100, 2) := by decide +kernel
theorem dX10_comesTo_101 : decode cX10_comesTo 101 = .ok (.isub, 1) := by decide +kernel
theorem dX10_comesTo_102 : decode cX10_comesTo 102 = .ok (.ishl, 1) := by decide +kernel
theorem dX10_comesTo_103 : decode cX10_comesTo 103 = .ok (.goto 4, 3) := by decide +kernel
theorem dX10_comesTo_106 : decode cX10_comesTo 106 = .ok (.iconst 0, 1) := by decide +kernel
theorem dX10_comesTo_107 : decode cX10_comesTo 107 = .ok (.ior, 1) := by decide +kernel
theorem dX10_comesTo_108 : decode cX10_comesTo 108 = .ok (.istore 4, 2) := by decide +kernel
theorem dX10_comesTo_110 : decode cX10_comesTo 110 = .ok (.iload 4, 2) := by decide +kernel
theorem dX10_comesTo_112 : decode cX10_comesTo 112 = .ok (.aload_n 0, 1) := by decide +kernel
theorem dX10_comesTo_113 : decode cX10_comesTo 113 = .ok (.getfield 58, 3) := by decide +kernel
theorem dX10_comesTo_116 : decode cX10_comesTo 116 = .ok (.iload 6, 2) := by decide +kernel
theorem dX10_comesTo_118 : decode cX10_comesTo 118 = .ok (.iaload, 1) := by decide +kernel
theorem dX10_comesTo_119 : decode cX10_comesTo 119 = .ok (.bipush 100, 2) := by decide +kernel
theorem dX10_comesTo_121 : decode cX10_comesTo 121 = .ok (.if_icmp .lt 18, 3) := by decide +kernel
theorem dX10_comesTo_124 : decode cX10_comesTo 124 = .ok (.iconst 1, 1) := by decide +kernel
theorem dX10_comesTo_125 : decode cX10_comesTo 125 = .ok (.aload_n 0, 1) := by decide +kernel
theorem dX10_comesTo_126 : decode cX10_comesTo 126 = .ok (.getfield 58, 3) := by decide +kernel
theorem dX10_comesTo_129 : decode cX10_comesTo 129 = .ok (.iload 6, 2) := by decide +kernel
theorem dX10_comesTo_131 : decode cX10_comesTo 131 = .ok (.iaload, 1) := by decide +kernel
theorem dX10_comesTo_132 : decode cX10_comesTo 132 = .ok (.bipush 100, 2) := by decide +kernel
theorem dX10_comesTo_134 : decode cX10_comesTo 134 = .ok (.isub, 1) := by decide +kernel
theorem dX10_comesTo_135 : decode cX10_comesTo 135 = .ok (.ishl, 1) := by decide +kernel
theorem dX10_comesTo_136 : decode cX10_comesTo 136 = .ok (.goto 4, 3) := by decide +kernel
theorem dX10_comesTo_139 : decode cX10_comesTo 139 = .ok (.iconst 0, 1) := by decide +kernel
theorem dX10_comesTo_140 : decode cX10_comesTo 140 = .ok (.ior, 1) := by decide +kernel
theorem dX10_comesTo_141 : decode cX10_comesTo 141 = .ok (.istore 4, 2) := by decide +kernel
theorem dX10_comesTo_143 : decode cX10_comesTo 143 = .ok (.iinc 6 1, 3) := by decide +kernel
theorem dX10_comesTo_146 : decode cX10_comesTo 146 = .ok (.goto (-98), 3) := by decide +kernel
theorem dX10_comesTo_149 : decode cX10_comesTo 149 = .ok (.iinc 5 1, 3) := by decide +kernel
theorem dX10_comesTo_152 : decode cX10_comesTo 152 = .ok (.goto (-114), 3) := by decide +kernel
theorem dX10_comesTo_155 : decode cX10_comesTo 155 = .ok (.iload 4, 2) := by decide +kernel
theorem dX10_comesTo_157 : decode cX10_comesTo 157 = .ok (.iload_n 3, 1) := by decide +kernel
theorem dX10_comesTo_158 : decode cX10_comesTo 158 = .ok (.ishr, 1) := by decide +kernel
theorem dX10_comesTo_159 : decode cX10_comesTo 159 = .ok (.iconst 1, 1) := by decide +kernel
theorem dX10_comesTo_160 : decode cX10_comesTo 160 = .ok (.iand, 1) := by decide +kernel
theorem dX10_comesTo_161 : decode cX10_comesTo 161 = .ok (.iconst 1, 1) := by decide +kernel
theorem dX10_comesTo_162 : decode cX10_comesTo 162 = .ok (.if_icmp .ne 7, 3) := by decide +kernel
theorem dX10_comesTo_165 : decode cX10_comesTo 165 = .ok (.iconst 1, 1) := by decide +kernel
theorem dX10_comesTo_166 : decode cX10_comesTo 166 = .ok (.goto 4, 3) := by decide +kernel
theorem dX10_comesTo_169 : decode cX10_comesTo 169 = .ok (.iconst 0, 1) := by decide +kernel
theorem dX10_comesTo_170 : decode cX10_comesTo 170 = .ok (.ireturn, 1) := by decide +kernel
set_option maxRecDepth 20000 in
theorem ggX10_derive_X10_isIn : GoodIn wsX10_derive wsX10_isIn := goodIn_r _ [7] (by decide +kernel) (by decide +kernel)
set_option maxRecDepth 20000 in
theorem gX10_derive_X10_isIn : GoodIn wsX10_derive (va_wsS RX10 84 yX10_isIn wsX10_isIn) := goodIn_app (goodIn_of _ (by decide +kernel)) ggX10_derive_X10_isIn
set_option maxRecDepth 20000 in
theorem ggX10_derive_X10_isOperand : GoodIn wsX10_derive wsX10_isOperand := goodIn_r _ [10, 4, 5, 6, 7] (by decide +kernel) (by decide +kernel)
set_option maxRecDepth 20000 in
theorem gX10_derive_X10_isOperand : GoodIn wsX10_derive (va_wsS RX10 181 yX10_isOperand wsX10_isOperand) := goodIn_app (goodIn_of _ (by decide +kernel)) ggX10_derive_X10_isOperand
set_option maxRecDepth 20000 in
theorem ggX10_derive_X10_comesTo : GoodIn wsX10_derive wsX10_comesTo := goodIn_r _ [14, 1, 2, 3, 20, 21, 22, 23, 24, 25, 26, 27, 28, 29, 30, 31, 32, 33, 34, 35, 36, 37, 38, 39, 40, 41, 42, 43, 44, 45, 46, 47, 48, 49, 50, 51, 52, 53, 54] (by decide +kernel) (by decide +kernel)
set_option maxRecDepth 20000 in
theorem gX10_derive_X10_comesTo : GoodIn wsX10_derive (wsV RX10 184 RX10 yX10_comesTo wsX10_comesTo) := goodIn_app (goodIn_of _ (by decide +kernel)) ggX10_derive_X10_comesTo
set_option maxRecDepth 20000 in
theorem ggX10_derive_X10_can : GoodIn wsX10_derive wsX10_can := goodIn_r _ [18, 19, 20, 21, 22, 23, 24, 25, 26, 27, 28, 29, 30, 31, 32, 33, 34, 35, 36, 37, 38, 39, 40, 41, 42, 43, 44, 45, 46, 47, 48, 49, 50, 51, 52, 53, 54] (by decide +kernel) (by decide +kernel)
set_option maxRecDepth 20000 in
theorem gX10_derive_X10_can : GoodIn wsX10_derive (wsV RX10 107 RX10 yX10_can wsX10_can) := goodIn_app (goodIn_of _ (by decide +kernel)) ggX10_derive_X10_can
theorem dX10_derive_0 : decode cX10_derive 0 = .ok (.iload_n 1, 1) := by decide +kernel
theorem dX10_derive_1 : decode cX10_derive 1 = .ok (.iconst 0, 1) := by decide +kernel
theorem dX10_derive_2 : decode cX10_derive 2 = .ok (.bipush 7, 2) := by decide +kernel
theorem dX10_derive_4 : decode cX10_derive 4 = .ok (.invokestatic 84, 3) := by decide +kernel
theorem dX10_derive_7 : decode cX10_derive 7 = .ok (.ifCond .eq 31, 3) := by decide +kernel
theorem dX10_derive_10 : decode cX10_derive 10 = .ok (.iload_n 2, 1) := by decide +kernel
theorem dX10_derive_11 : decode cX10_derive 11 = .ok (.iconst 0, 1) := by decide +kernel
theorem dX10_derive_12 : decode cX10_derive 12 = .ok (.iconst 4, 1) := by decide +kernel
theorem dX10_derive_13 : decode cX10_derive 13 = .ok (.invokestatic 84, 3) := by decide +kernel
theorem dX10_derive_16 : decode cX10_derive 16 = .ok (.ifCond .eq 22, 3) := by decide +kernel
theorem dX10_derive_19 : decode cX10_derive 19 = .ok (.iload_n 3, 1) := by decide +kernel
theorem dX10_derive_20 : decode cX10_derive 20 = .ok (.invokestatic 181, 3) := by decide +kernel
theorem dX10_derive_23 : decode cX10_derive 23 = .ok (.ifCond .eq 15, 3) := by decide +kernel
theorem dX10_derive_26 : decode cX10_derive 26 = .ok (.iload 4, 2) := by decide +kernel
theorem dX10_derive_28 : decode cX10_derive 28 = .ok (.invokestatic 181, 3) := by decide +kernel
theorem dX10_derive_31 : decode cX10_derive 31 = .ok (.ifCond .eq 7, 3) := by decide +kernel
theorem dX10_derive_34 : decode cX10_derive 34 = .ok (.iconst 1, 1) := by decide +kernel
theorem dX10_derive_35 : decode cX10_derive 35 = .ok (.goto 4, 3) := by decide +kernel
theorem dX10_derive_38 : decode cX10_derive 38 = .ok (.iconst 0, 1) := by decide +kernel
theorem dX10_derive_39 : decode cX10_derive 39 = .ok (.istore 5, 2) := by decide +kernel
theorem dX10_derive_41 : decode cX10_derive 41 = .ok (.aload_n 0, 1) := by decide +kernel
theorem dX10_derive_42 : decode cX10_derive 42 = .ok (.iload 5, 2) := by decide +kernel
theorem dX10_derive_44 : decode cX10_derive 44 = .ok (.ifCond .ne 7, 3) := by decide +kernel
theorem dX10_derive_47 : decode cX10_derive 47 = .ok (.iconst 1, 1) := by decide +kernel
theorem dX10_derive_48 : decode cX10_derive 48 = .ok (.goto 19, 3) := by decide +kernel
theorem dX10_derive_51 : decode cX10_derive 51 = .ok (.aload_n 0, 1) := by decide +kernel
theorem dX10_derive_52 : decode cX10_derive 52 = .ok (.iload_n 3, 1) := by decide +kernel
theorem dX10_derive_53 : decode cX10_derive 53 = .ok (.iload 4, 2) := by decide +kernel
theorem dX10_derive_55 : decode cX10_derive 55 = .ok (.iload_n 1, 1) := by decide +kernel
theorem dX10_derive_56 : decode cX10_derive 56 = .ok (.invokevirtual 184, 3) := by decide +kernel
theorem dX10_derive_59 : decode cX10_derive 59 = .ok (.ifCond .eq 7, 3) := by decide +kernel
theorem dX10_derive_62 : decode cX10_derive 62 = .ok (.iconst 2, 1) := by decide +kernel
theorem dX10_derive_63 : decode cX10_derive 63 = .ok (.goto 4, 3) := by decide +kernel
theorem dX10_derive_66 : decode cX10_derive 66 = .ok (.iconst 0, 1) := by decide +kernel
theorem dX10_derive_67 : decode cX10_derive 67 = .ok (.invokevirtual 107, 3) := by decide +kernel
theorem dX10_derive_70 : decode cX10_derive 70 = .ok (.ifCond .eq 25, 3) := by decide +kernel
theorem dX10_derive_73 : decode cX10_derive 73 = .ok (.aload_n 0, 1) := by decide +kernel
theorem dX10_derive_74 : decode cX10_derive 74 = .ok (.getfield 52, 3) := by decide +kernel
theorem dX10_derive_77 : decode cX10_derive 77 = .ok (.iload_n 1, 1) := by decide +kernel
theorem dX10_derive_78 : decode cX10_derive 78 = .ok (.iload_n 2, 1) := by decide +kernel
theorem dX10_derive_79 : decode cX10_derive 79 = .ok (.iastore, 1) := by decide +kernel
theorem dX10_derive_80 : decode cX10_derive 80 = .ok (.aload_n 0, 1) := by decide +kernel
theorem dX10_derive_81 : decode cX10_derive 81 = .ok (.getfield 55, 3) := by decide +kernel
theorem dX10_derive_84 : decode cX10_derive 84 = .ok (.iload_n 1, 1) := by decide +kernel
theorem dX10_derive_85 : decode cX10_derive 85 = .ok (.iload_n 3, 1) := by decide +kernel
theorem dX10_derive_86 : decode cX10_derive 86 = .ok (.iastore, 1) := by decide +kernel
theorem dX10_derive_87 : decode cX10_derive 87 = .ok (.aload_n 0, 1) := by decide +kernel
theorem dX10_derive_88 : decode cX10_derive 88 = .ok (.getfield 58, 3) := by decide +kernel
theorem dX10_derive_91 : decode cX10_derive 91 = .ok (.iload_n 1, 1) := by decide +kernel
theorem dX10_derive_92 : decode cX10_derive 92 = .ok (.iload 4, 2) := by decide +kernel
theorem dX10_derive_94 : decode cX10_derive 94 = .ok (.iastore, 1) := by decide +kernel
theorem dX10_derive_95 : decode cX10_derive 95 = .ok (.return_, 1) := by decide +kernel
theorem dX10_hasValue_0 : decode cX10_hasValue 0 = .ok (.iload_n 1, 1) := by decide +kernel
theorem dX10_hasValue_1 : decode cX10_hasValue 1 = .ok (.bipush 100, 2) := by decide +kernel
theorem dX10_hasValue_3 : decode cX10_hasValue 3 = .ok (.if_icmp .lt 15, 3) := by decide +kernel
theorem dX10_hasValue_6 : decode cX10_hasValue 6 = .ok (.aload_n 0, 1) := by decide +kernel
theorem dX10_hasValue_7 : decode cX10_hasValue 7 = .ok (.getfield 61, 3) := by decide +kernel
theorem dX10_hasValue_10 : decode cX10_hasValue 10 = .ok (.iload_n 1, 1) := by decide +kernel
theorem dX10_hasValue_11 : decode cX10_hasValue 11 = .ok (.bipush 100, 2) := by decide +kernel
theorem dX10_hasValue_13 : decode cX10_hasValue 13 = .ok (.isub, 1) := by decide +kernel
theorem dX10_hasValue_14 : decode cX10_hasValue 14 = .ok (.baload, 1) := by decide +kernel
theorem dX10_hasValue_15 : decode cX10_hasValue 15 = .ok (.goto 25, 3) := by decide +kernel
theorem dX10_hasValue_18 : decode cX10_hasValue 18 = .ok (.iload_n 1, 1) := by decide +kernel
theorem dX10_hasValue_19 : decode cX10_hasValue 19 = .ok (.aload_n 0, 1) := by decide +kernel
theorem dX10_hasValue_20 : decode cX10_hasValue 20 = .ok (.getfield 81, 3) := by decide +kernel
theorem dX10_hasValue_23 : decode cX10_hasValue 23 = .ok (.if_icmp .ge 16, 3) := by decide +kernel
theorem dX10_hasValue_26 : decode cX10_hasValue 26 = .ok (.aload_n 0, 1) := by decide +kernel
theorem dX10_hasValue_27 : decode cX10_hasValue 27 = .ok (.getfield 46, 3) := by decide +kernel
theorem dX10_hasValue_30 : decode cX10_hasValue 30 = .ok (.iload_n 1, 1) := by decide +kernel
theorem dX10_hasValue_31 : decode cX10_hasValue 31 = .ok (.iaload, 1) := by decide +kernel
theorem dX10_hasValue_32 : decode cX10_hasValue 32 = .ok (.ifCond .le 7, 3) := by decide +kernel
theorem dX10_hasValue_35 : decode cX10_hasValue 35 = .ok (.iconst 1, 1) := by decide +kernel
theorem dX10_hasValue_36 : decode cX10_hasValue 36 = .ok (.goto 4, 3) := by decide +kernel
theorem dX10_hasValue_39 : decode cX10_hasValue 39 = .ok (.iconst 0, 1) := by decide +kernel
theorem dX10_hasValue_40 : decode cX10_hasValue 40 = .ok (.ireturn, 1) := by decide +kernel
theorem dX10_valueOf_0 : decode cX10_valueOf 0 = .ok (.iload_n 1, 1) := by decide +kernel
theorem dX10_valueOf_1 : decode cX10_valueOf 1 = .ok (.bipush 100, 2) := by decide +kernel
theorem dX10_valueOf_3 : decode cX10_valueOf 3 = .ok (.if_icmp .lt 15, 3) := by decide +kernel
theorem dX10_valueOf_6 : decode cX10_valueOf 6 = .ok (.aload_n 0, 1) := by decide +kernel
theorem dX10_valueOf_7 : decode cX10_valueOf 7 = .ok (.getfield 65, 3) := by decide +kernel
theorem dX10_valueOf_10 : decode cX10_valueOf 10 = .ok (.iload_n 1, 1) := by decide +kernel
theorem dX10_valueOf_11 : decode cX10_valueOf 11 = .ok (.bipush 100, 2) := by decide +kernel
theorem dX10_valueOf_13 : decode cX10_valueOf 13 = .ok (.isub, 1) := by decide +kernel
theorem dX10_valueOf_14 : decode cX10_valueOf 14 = .ok (.iaload, 1) := by decide +kernel
theorem dX10_valueOf_15 : decode cX10_valueOf 15 = .ok (.goto 9, 3) := by decide +kernel
theorem dX10_valueOf_18 : decode cX10_valueOf 18 = .ok (.aload_n 0, 1) := by decide +kernel
theorem dX10_valueOf_19 : decode cX10_valueOf 19 = .ok (.getfield 40, 3) := by decide +kernel
theorem dX10_valueOf_22 : decode cX10_valueOf 22 = .ok (.iload_n 1, 1) := by decide +kernel
theorem dX10_valueOf_23 : decode cX10_valueOf 23 = .ok (.iaload, 1) := by decide +kernel
theorem dX10_valueOf_24 : decode cX10_valueOf 24 = .ok (.ireturn, 1) := by decide +kernel
theorem dX10_timeOf_0 : decode cX10_timeOf 0 = .ok (.iload_n 1, 1) := by decide +kernel
theorem dX10_timeOf_1 : decode cX10_timeOf 1 = .ok (.bipush 100, 2) := by decide +kernel
theorem dX10_timeOf_3 : decode cX10_timeOf 3 = .ok (.if_icmp .lt 15, 3) := by decide +kernel
theorem dX10_timeOf_6 : decode cX10_timeOf 6 = .ok (.aload_n 0, 1) := by decide +kernel
theorem dX10_timeOf_7 : decode cX10_timeOf 7 = .ok (.getfield 68, 3) := by decide +kernel
theorem dX10_timeOf_10 : decode cX10_timeOf 10 = .ok (.iload_n 1, 1) := by decide +kernel
theorem dX10_timeOf_11 : decode cX10_timeOf 11 = .ok (.bipush 100, 2) := by decide +kernel
theorem dX10_timeOf_13 : decode cX10_timeOf 13 = .ok (.isub, 1) := by decide +kernel
theorem dX10_timeOf_14 : decode cX10_timeOf 14 = .ok (.iaload, 1) := by decide +kernel
theorem dX10_timeOf_15 : decode cX10_timeOf 15 = .ok (.goto 9, 3) := by decide +kernel
theorem dX10_timeOf_18 : decode cX10_timeOf 18 = .ok (.aload_n 0, 1) := by decide +kernel
theorem dX10_timeOf_19 : decode cX10_timeOf 19 = .ok (.getfield 43, 3) := by decide +kernel
theorem dX10_timeOf_22 : decode cX10_timeOf 22 = .ok (.iload_n 1, 1) := by decide +kernel
theorem dX10_timeOf_23 : decode cX10_timeOf 23 = .ok (.iaload, 1) := by decide +kernel
theorem dX10_timeOf_24 : decode cX10_timeOf 24 = .ok (.ireturn, 1) := by decide +kernel
theorem dX10_made_0 : decode cX10_made 0 = .ok (.iload_n 0, 1) := by decide +kernel
theorem dX10_made_1 : decode cX10_made 1 = .ok (.ifCond .ne 9, 3) := by decide +kernel
theorem dX10_made_4 : decode cX10_made 4 = .ok (.lload_n 1, 1) := by decide +kernel
theorem dX10_made_5 : decode cX10_made 5 = .ok (.lload_n 3, 1) := by decide +kernel
theorem dX10_made_6 : decode cX10_made 6 = .ok (.ladd, 1) := by decide +kernel
theorem dX10_made_7 : decode cX10_made 7 = .ok (.goto 54, 3) := by decide +kernel
theorem dX10_made_10 : decode cX10_made 10 = .ok (.iload_n 0, 1) := by decide +kernel
theorem dX10_made_11 : decode cX10_made 11 = .ok (.iconst 1, 1) := by decide +kernel
theorem dX10_made_12 : decode cX10_made 12 = .ok (.if_icmp .ne 9, 3) := by decide +kernel
theorem dX10_made_15 : decode cX10_made 15 = .ok (.lload_n 1, 1) := by decide +kernel
theorem dX10_made_16 : decode cX10_made 16 = .ok (.lload_n 3, 1) := by decide +kernel
theorem dX10_made_17 : decode cX10_made 17 = .ok (.lsub, 1) := by decide +kernel
theorem dX10_made_18 : decode cX10_made 18 = .ok (.goto 43, 3) := by decide +kernel
theorem dX10_made_21 : decode cX10_made 21 = .ok (.iload_n 0, 1) := by decide +kernel
theorem dX10_made_22 : decode cX10_made 22 = .ok (.iconst 2, 1) := by decide +kernel
theorem dX10_made_23 : decode cX10_made 23 = .ok (.if_icmp .ne 9, 3) := by decide +kernel
theorem dX10_made_26 : decode cX10_made 26 = .ok (.lload_n 1, 1) := by decide +kernel
theorem dX10_made_27 : decode cX10_made 27 = .ok (.lload_n 3, 1) := by decide +kernel
theorem dX10_made_28 : decode cX10_made 28 = .ok (.lmul, 1) := by decide +kernel
theorem dX10_made_29 : decode cX10_made 29 = .ok (.goto 32, 3) := by decide +kernel
theorem dX10_made_32 : decode cX10_made 32 = .ok (.iload_n 0, 1) := by decide +kernel
theorem dX10_made_33 : decode cX10_made 33 = .ok (.iconst 3, 1) := by decide +kernel
theorem dX10_made_34 : decode cX10_made 34 = .ok (.if_icmp .ne 7, 3) := by decide +kernel
theorem dX10_made_37 : decode cX10_made 37 = .ok (.iconst 1, 1) := by decide +kernel
theorem dX10_made_38 : decode cX10_made 38 = .ok (.goto 4, 3) := by decide +kernel
theorem dX10_made_41 : decode cX10_made 41 = .ok (.iconst 0, 1) := by decide +kernel
theorem dX10_made_42 : decode cX10_made 42 = .ok (.lload_n 1, 1) := by decide +kernel
theorem dX10_made_43 : decode cX10_made 43 = .ok (.lload_n 3, 1) := by decide +kernel
theorem dX10_made_44 : decode cX10_made 44 = .ok (.lcmp, 1) := by decide +kernel
theorem dX10_made_45 : decode cX10_made 45 = .ok (.ifCond .le 7, 3) := by decide +kernel
theorem dX10_made_48 : decode cX10_made 48 = .ok (.iconst 1, 1) := by decide +kernel
theorem dX10_made_49 : decode cX10_made 49 = .ok (.goto 4, 3) := by decide +kernel
theorem dX10_made_52 : decode cX10_made 52 = .ok (.iconst 0, 1) := by decide +kernel
theorem dX10_made_53 : decode cX10_made 53 = .ok (.if_icmp .ne 7, 3) := by decide +kernel
theorem dX10_made_56 : decode cX10_made 56 = .ok (.lload_n 1, 1) := by decide +kernel
theorem dX10_made_57 : decode cX10_made 57 = .ok (.goto 4, 3) := by decide +kernel
theorem dX10_made_60 : decode cX10_made 60 = .ok (.lload_n 3, 1) := by decide +kernel
theorem dX10_made_61 : decode cX10_made 61 = .ok (.lstore 5, 2) := by decide +kernel
theorem dX10_made_63 : decode cX10_made 63 = .ok (.lload 5, 2) := by decide +kernel
theorem dX10_made_65 : decode cX10_made 65 = .ok (.ldc2_w 187, 3) := by decide +kernel
theorem dX10_made_68 : decode cX10_made 68 = .ok (.lcmp, 1) := by decide +kernel
theorem dX10_made_69 : decode cX10_made 69 = .ok (.ifCond .le 9, 3) := by decide +kernel
theorem dX10_made_72 : decode cX10_made 72 = .ok (.ldc2_w 187, 3) := by decide +kernel
theorem dX10_made_75 : decode cX10_made 75 = .ok (.goto 20, 3) := by decide +kernel
theorem dX10_made_78 : decode cX10_made 78 = .ok (.lload 5, 2) := by decide +kernel
theorem dX10_made_80 : decode cX10_made 80 = .ok (.ldc2_w 189, 3) := by decide +kernel
theorem dX10_made_83 : decode cX10_made 83 = .ok (.lcmp, 1) := by decide +kernel
theorem dX10_made_84 : decode cX10_made 84 = .ok (.ifCond .ge 9, 3) := by decide +kernel
theorem dX10_made_87 : decode cX10_made 87 = .ok (.ldc2_w 189, 3) := by decide +kernel
theorem dX10_made_90 : decode cX10_made 90 = .ok (.goto 5, 3) := by decide +kernel
theorem dX10_made_93 : decode cX10_made 93 = .ok (.lload 5, 2) := by decide +kernel
theorem dX10_made_95 : decode cX10_made 95 = .ok (.l2i, 1) := by decide +kernel
theorem dX10_made_96 : decode cX10_made 96 = .ok (.ireturn, 1) := by decide +kernel
set_option maxRecDepth 20000 in
theorem ggX10_derives_X10_hasValue : GoodIn wsX10_derives wsX10_hasValue := goodIn_r _ [11, 1, 12, 13, 29, 30, 31, 32, 33, 34, 35, 36, 37, 38, 39, 40, 41, 42, 43, 44, 45, 46, 47, 48, 49, 50, 51, 52, 53, 54, 55, 56, 57, 58, 59, 60, 61, 62, 63] (by decide +kernel) (by decide +kernel)
set_option maxRecDepth 20000 in
theorem gX10_derives_X10_hasValue : GoodIn wsX10_derives (wsV RX10 191 RX10 yX10_hasValue wsX10_hasValue) := goodIn_app (goodIn_of _ (by decide +kernel)) ggX10_derives_X10_hasValue
set_option maxRecDepth 20000 in
theorem ggX10_derives_X10_valueOf : GoodIn wsX10_derives wsX10_valueOf := goodIn_r _ [17, 5, 18, 29, 30, 31, 32, 33, 34, 35, 36, 37, 38, 39, 40, 41, 42, 43, 44, 45, 46, 47, 48, 49, 50, 51, 52, 53, 54, 55, 56, 57, 58, 59, 60, 61, 62, 63] (by decide +kernel) (by decide +kernel)
set_option maxRecDepth 20000 in
theorem gX10_derives_X10_valueOf : GoodIn wsX10_derives (wsV RX10 194 RX10 yX10_valueOf wsX10_valueOf) := goodIn_app (goodIn_of _ (by decide +kernel)) ggX10_derives_X10_valueOf
set_option maxRecDepth 20000 in
theorem ggX10_derives_X10_made : GoodIn wsX10_derives wsX10_made := goodIn_r _ [21, 22, 23] (by decide +kernel) (by decide +kernel)
set_option maxRecDepth 20000 in
theorem gX10_derives_X10_made : GoodIn wsX10_derives (va_wsS RX10 197 yX10_made wsX10_made) := goodIn_app (goodIn_of _ (by decide +kernel)) ggX10_derives_X10_made
set_option maxRecDepth 20000 in
theorem ggX10_derives_X10_timeOf : GoodIn wsX10_derives wsX10_timeOf := goodIn_r _ [27, 6, 28, 29, 30, 31, 32, 33, 34, 35, 36, 37, 38, 39, 40, 41, 42, 43, 44, 45, 46, 47, 48, 49, 50, 51, 52, 53, 54, 55, 56, 57, 58, 59, 60, 61, 62, 63] (by decide +kernel) (by decide +kernel)
set_option maxRecDepth 20000 in
theorem gX10_derives_X10_timeOf : GoodIn wsX10_derives (wsV RX10 201 RX10 yX10_timeOf wsX10_timeOf) := goodIn_app (goodIn_of _ (by decide +kernel)) ggX10_derives_X10_timeOf
theorem dX10_derives_0 : decode cX10_derives 0 = .ok (.iconst 0, 1) := by decide +kernel
theorem dX10_derives_1 : decode cX10_derives 1 = .ok (.istore_n 1, 1) := by decide +kernel
theorem dX10_derives_2 : decode cX10_derives 2 = .ok (.iload_n 1, 1) := by decide +kernel
theorem dX10_derives_3 : decode cX10_derives 3 = .ok (.bipush 8, 2) := by decide +kernel
theorem dX10_derives_5 : decode cX10_derives 5 = .ok (.if_icmp .ge 16, 3) := by decide +kernel
theorem dX10_derives_8 : decode cX10_derives 8 = .ok (.aload_n 0, 1) := by decide +kernel
theorem dX10_derives_9 : decode cX10_derives 9 = .ok (.getfield 61, 3) := by decide +kernel
theorem dX10_derives_12 : decode cX10_derives 12 = .ok (.iload_n 1, 1) := by decide +kernel
theorem dX10_derives_13 : decode cX10_derives 13 = .ok (.iconst 0, 1) := by decide +kernel
theorem dX10_derives_14 : decode cX10_derives 14 = .ok (.bastore, 1) := by decide +kernel
theorem dX10_derives_15 : decode cX10_derives 15 = .ok (.iinc 1 1, 3) := by decide +kernel
theorem dX10_derives_18 : decode cX10_derives 18 = .ok (.goto (-16), 3) := by decide +kernel
theorem dX10_derives_21 : decode cX10_derives 21 = .ok (.iconst 0, 1) := by decide +kernel
theorem dX10_derives_22 : decode cX10_derives 22 = .ok (.istore_n 1, 1) := by decide +kernel
theorem dX10_derives_23 : decode cX10_derives 23 = .ok (.iload_n 1, 1) := by decide +kernel
theorem dX10_derives_24 : decode cX10_derives 24 = .ok (.bipush 8, 2) := by decide +kernel
theorem dX10_derives_26 : decode cX10_derives 26 = .ok (.if_icmp .ge 155, 3) := by decide +kernel
theorem dX10_derives_29 : decode cX10_derives 29 = .ok (.iconst 0, 1) := by decide +kernel
theorem dX10_derives_30 : decode cX10_derives 30 = .ok (.istore_n 2, 1) := by decide +kernel
theorem dX10_derives_31 : decode cX10_derives 31 = .ok (.iload_n 2, 1) := by decide +kernel
theorem dX10_derives_32 : decode cX10_derives 32 = .ok (.bipush 8, 2) := by decide +kernel
theorem dX10_derives_34 : decode cX10_derives 34 = .ok (.if_icmp .ge 141, 3) := by decide +kernel
theorem dX10_derives_37 : decode cX10_derives 37 = .ok (.aload_n 0, 1) := by decide +kernel
theorem dX10_derives_38 : decode cX10_derives 38 = .ok (.getfield 52, 3) := by decide +kernel
theorem dX10_derives_41 : decode cX10_derives 41 = .ok (.iload_n 2, 1) := by decide +kernel
theorem dX10_derives_42 : decode cX10_derives 42 = .ok (.iaload, 1) := by decide +kernel
theorem dX10_derives_43 : decode cX10_derives 43 = .ok (.iconst (-1), 1) := by decide +kernel
theorem dX10_derives_44 : decode cX10_derives 44 = .ok (.if_icmp .eq 125, 3) := by decide +kernel
theorem dX10_derives_47 : decode cX10_derives 47 = .ok (.aload_n 0, 1) := by decide +kernel
theorem dX10_derives_48 : decode cX10_derives 48 = .ok (.aload_n 0, 1) := by decide +kernel
theorem dX10_derives_49 : decode cX10_derives 49 = .ok (.getfield 55, 3) := by decide +kernel
theorem dX10_derives_52 : decode cX10_derives 52 = .ok (.iload_n 2, 1) := by decide +kernel
theorem dX10_derives_53 : decode cX10_derives 53 = .ok (.iaload, 1) := by decide +kernel
theorem dX10_derives_54 : decode cX10_derives 54 = .ok (.invokevirtual 191, 3) := by decide +kernel
theorem dX10_derives_57 : decode cX10_derives 57 = .ok (.ifCond .eq 112, 3) := by decide +kernel
theorem dX10_derives_60 : decode cX10_derives 60 = .ok (.aload_n 0, 1) := by decide +kernel
theorem dX10_derives_61 : decode cX10_derives 61 = .ok (.aload_n 0, 1) := by decide +kernel
theorem dX10_derives_62 : decode cX10_derives 62 = .ok (.getfield 58, 3) := by decide +kernel
theorem dX10_derives_65 : decode cX10_derives 65 = .ok (.iload_n 2, 1) := by decide +kernel
theorem dX10_derives_66 : decode cX10_derives 66 = .ok (.iaload, 1) := by decide +kernel
theorem dX10_derives_67 : decode cX10_derives 67 = .ok (.invokevirtual 191, 3) := by decide +kernel
theorem dX10_derives_70 : decode cX10_derives 70 = .ok (.ifCond .eq 99, 3) := by decide +kernel
theorem dX10_derives_73 : decode cX10_derives 73 = .ok (.aload_n 0, 1) := by decide +kernel
theorem dX10_derives_74 : decode cX10_derives 74 = .ok (.getfield 61, 3) := by decide +kernel
theorem dX10_derives_77 : decode cX10_derives 77 = .ok (.iload_n 2, 1) := by decide +kernel
theorem dX10_derives_78 : decode cX10_derives 78 = .ok (.iconst 1, 1) := by decide +kernel
theorem dX10_derives_79 : decode cX10_derives 79 = .ok (.bastore, 1) := by decide +kernel
theorem dX10_derives_80 : decode cX10_derives 80 = .ok (.aload_n 0, 1) := by decide +kernel
theorem dX10_derives_81 : decode cX10_derives 81 = .ok (.getfield 65, 3) := by decide +kernel
theorem dX10_derives_84 : decode cX10_derives 84 = .ok (.iload_n 2, 1) := by decide +kernel
theorem dX10_derives_85 : decode cX10_derives 85 = .ok (.aload_n 0, 1) := by decide +kernel
theorem dX10_derives_86 : decode cX10_derives 86 = .ok (.getfield 52, 3) := by decide +kernel
theorem dX10_derives_89 : decode cX10_derives 89 = .ok (.iload_n 2, 1) := by decide +kernel
theorem dX10_derives_90 : decode cX10_derives 90 = .ok (.iaload, 1) := by decide +kernel
theorem dX10_derives_91 : decode cX10_derives 91 = .ok (.aload_n 0, 1) := by decide +kernel
theorem dX10_derives_92 : decode cX10_derives 92 = .ok (.aload_n 0, 1) := by decide +kernel
theorem dX10_derives_93 : decode cX10_derives 93 = .ok (.getfield 55, 3) := by decide +kernel
theorem dX10_derives_96 : decode cX10_derives 96 = .ok (.iload_n 2, 1) := by decide +kernel
theorem dX10_derives_97 : decode cX10_derives 97 = .ok (.iaload, 1) := by decide +kernel
theorem dX10_derives_98 : decode cX10_derives 98 = .ok (.invokevirtual 194, 3) := by decide +kernel
theorem dX10_derives_101 : decode cX10_derives 101 = .ok (.i2l, 1) := by decide +kernel
theorem dX10_derives_102 : decode cX10_derives 102 = .ok (.aload_n 0, 1) := by decide +kernel
theorem dX10_derives_103 : decode cX10_derives 103 = .ok (.aload_n 0, 1) := by decide +kernel
theorem dX10_derives_104 : decode cX10_derives 104 = .ok (.getfield 58, 3) := by decide +kernel
theorem dX10_derives_107 : decode cX10_derives 107 = .ok (.iload_n 2, 1) := by decide +kernel
theorem dX10_derives_108 : decode cX10_derives 108 = .ok (.iaload, 1) := by decide +kernel
theorem dX10_derives_109 : decode cX10_derives 109 = .ok (.invokevirtual 194, 3) := by decide +kernel
theorem dX10_derives_112 : decode cX10_derives 112 = .ok (.i2l, 1) := by decide +kernel
theorem dX10_derives_113 : decode cX10_derives 113 = .ok (.invokestatic 197, 3) := by decide +kernel
theorem dX10_derives_116 : decode cX10_derives 116 = .ok (.iastore, 1) := by decide +kernel
theorem dX10_derives_117 : decode cX10_derives 117 = .ok (.aload_n 0, 1) := by decide +kernel
theorem dX10_derives_118 : decode cX10_derives 118 = .ok (.getfield 68, 3) := by decide +kernel
theorem dX10_derives_121 : decode cX10_derives 121 = .ok (.iload_n 2, 1) := by decide +kernel
theorem dX10_derives_122 : decode cX10_derives 122 = .ok (.aload_n 0, 1) := by decide +kernel
theorem dX10_derives_123 : decode cX10_derives 123 = .ok (.aload_n 0, 1) := by decide +kernel
theorem dX10_derives_124 : decode cX10_derives 124 = .ok (.getfield 55, 3) := by decide +kernel
theorem dX10_derives_127 : decode cX10_derives 127 = .ok (.iload_n 2, 1) := by decide +kernel
theorem dX10_derives_128 : decode cX10_derives 128 = .ok (.iaload, 1) := by decide +kernel
theorem dX10_derives_129 : decode cX10_derives 129 = .ok (.invokevirtual 201, 3) := by decide +kernel
theorem dX10_derives_132 : decode cX10_derives 132 = .ok (.aload_n 0, 1) := by decide +kernel
theorem dX10_derives_133 : decode cX10_derives 133 = .ok (.aload_n 0, 1) := by decide +kernel
theorem dX10_derives_134 : decode cX10_derives 134 = .ok (.getfield 58, 3) := by decide +kernel
theorem dX10_derives_137 : decode cX10_derives 137 = .ok (.iload_n 2, 1) := by decide +kernel
theorem dX10_derives_138 : decode cX10_derives 138 = .ok (.iaload, 1) := by decide +kernel
theorem dX10_derives_139 : decode cX10_derives 139 = .ok (.invokevirtual 201, 3) := by decide +kernel
theorem dX10_derives_142 : decode cX10_derives 142 = .ok (.if_icmp .le 16, 3) := by decide +kernel
theorem dX10_derives_145 : decode cX10_derives 145 = .ok (.aload_n 0, 1) := by decide +kernel
theorem dX10_derives_146 : decode cX10_derives 146 = .ok (.aload_n 0, 1) := by decide +kernel
theorem dX10_derives_147 : decode cX10_derives 147 = .ok (.getfield 55, 3) := by decide +kernel
theorem dX10_derives_150 : decode cX10_derives 150 = .ok (.iload_n 2, 1) := by decide +kernel
theorem dX10_derives_151 : decode cX10_derives 151 = .ok (.iaload, 1) := by decide +kernel
theorem dX10_derives_152 : decode cX10_derives 152 = .ok (.invokevirtual 201, 3) := by decide +kernel
theorem dX10_derives_155 : decode cX10_derives 155 = .ok (.goto 13, 3) := by decide +kernel
theorem dX10_derives_158 : decode cX10_derives 158 = .ok (.aload_n 0, 1) := by decide +kernel
theorem dX10_derives_159 : decode cX10_derives 159 = .ok (.aload_n 0, 1) := by decide +kernel
theorem dX10_derives_160 : decode cX10_derives 160 = .ok (.getfield 58, 3) := by decide +kernel
theorem dX10_derives_163 : decode cX10_derives 163 = .ok (.iload_n 2, 1) := by decide +kernel
end
section
theorem dX10_derives_164 : decode cX10_derives 164 = .ok (.iaload, 1) := by decide +kernel
theorem dX10_derives_165 : decode cX10_derives 165 = .ok (.invokevirtual 201, 3) := by decide +kernel
theorem dX10_derives_168 : decode cX10_derives 168 = .ok (.iastore, 1) := by decide +kernel
theorem dX10_derives_169 : decode cX10_derives 169 = .ok (.iinc 2 1, 3) := by decide +kernel
theorem dX10_derives_172 : decode cX10_derives 172 = .ok (.goto (-141), 3) := by decide +kernel
theorem dX10_derives_175 : decode cX10_derives 175 = .ok (.iinc 1 1, 3) := by decide +kernel
theorem dX10_derives_178 : decode cX10_derives 178 = .ok (.goto (-155), 3) := by decide +kernel
theorem dX10_derives_181 : decode cX10_derives 181 = .ok (.return_, 1) := by decide +kernel
set_option maxRecDepth 20000 in
theorem ggX10_isDerived_X10_derives : GoodIn wsX10_isDerived wsX10_derives := goodIn_r _ [6, 1, 7, 8, 9, 10, 11, 12, 13, 14, 5, 15, 16, 17, 18, 19, 20, 21, 22, 23, 24, 25, 26, 27, 28, 29, 30, 31, 32, 41, 42, 43, 44, 45, 46, 47, 48, 49, 50, 51, 52, 53, 54, 55, 56, 57, 58, 59, 60, 61, 62, 63, 64, 65, 66, 67, 68, 69, 70, 71, 72, 73, 74, 75] (by decide +kernel) (by decide +kernel)
set_option maxRecDepth 20000 in
theorem gX10_isDerived_X10_derives : GoodIn wsX10_isDerived (wsV RX10 204 RX10 yX10_derives wsX10_derives) := goodIn_app (goodIn_of _ (by decide +kernel)) ggX10_isDerived_X10_derives
set_option maxRecDepth 20000 in
theorem ggX10_isDerived_X10_isIn : GoodIn wsX10_isDerived wsX10_isIn := goodIn_r _ [35] (by decide +kernel) (by decide +kernel)
set_option maxRecDepth 20000 in
theorem gX10_isDerived_X10_isIn : GoodIn wsX10_isDerived (va_wsS RX10 84 yX10_isIn wsX10_isIn) := goodIn_app (goodIn_of _ (by decide +kernel)) ggX10_isDerived_X10_isIn
set_option maxRecDepth 20000 in
theorem ggX10_isDerived_X10_can : GoodIn wsX10_isDerived wsX10_can := goodIn_r _ [39, 40, 41, 42, 43, 44, 45, 46, 47, 48, 49, 50, 51, 52, 53, 54, 55, 56, 57, 58, 59, 60, 61, 62, 63, 64, 65, 66, 67, 68, 69, 70, 71, 72, 73, 74, 75] (by decide +kernel) (by decide +kernel)
set_option maxRecDepth 20000 in
theorem gX10_isDerived_X10_can : GoodIn wsX10_isDerived (wsV RX10 107 RX10 yX10_can wsX10_can) := goodIn_app (goodIn_of _ (by decide +kernel)) ggX10_isDerived_X10_can
theorem dX10_isDerived_0 : decode cX10_isDerived 0 = .ok (.aload_n 0, 1) := by decide +kernel
theorem dX10_isDerived_1 : decode cX10_isDerived 1 = .ok (.invokevirtual 204, 3) := by decide +kernel
theorem dX10_isDerived_4 : decode cX10_isDerived 4 = .ok (.aload_n 0, 1) := by decide +kernel
theorem dX10_isDerived_5 : decode cX10_isDerived 5 = .ok (.iload_n 1, 1) := by decide +kernel
theorem dX10_isDerived_6 : decode cX10_isDerived 6 = .ok (.iconst 0, 1) := by decide +kernel
theorem dX10_isDerived_7 : decode cX10_isDerived 7 = .ok (.bipush 7, 2) := by decide +kernel
theorem dX10_isDerived_9 : decode cX10_isDerived 9 = .ok (.invokestatic 84, 3) := by decide +kernel
theorem dX10_isDerived_12 : decode cX10_isDerived 12 = .ok (.ifCond .ne 7, 3) := by decide +kernel
theorem dX10_isDerived_15 : decode cX10_isDerived 15 = .ok (.iconst 1, 1) := by decide +kernel
theorem dX10_isDerived_16 : decode cX10_isDerived 16 = .ok (.goto 17, 3) := by decide +kernel
theorem dX10_isDerived_19 : decode cX10_isDerived 19 = .ok (.aload_n 0, 1) := by decide +kernel
theorem dX10_isDerived_20 : decode cX10_isDerived 20 = .ok (.getfield 61, 3) := by decide +kernel
theorem dX10_isDerived_23 : decode cX10_isDerived 23 = .ok (.iload_n 1, 1) := by decide +kernel
theorem dX10_isDerived_24 : decode cX10_isDerived 24 = .ok (.baload, 1) := by decide +kernel
theorem dX10_isDerived_25 : decode cX10_isDerived 25 = .ok (.ifCond .eq 7, 3) := by decide +kernel
theorem dX10_isDerived_28 : decode cX10_isDerived 28 = .ok (.iconst 0, 1) := by decide +kernel
theorem dX10_isDerived_29 : decode cX10_isDerived 29 = .ok (.goto 4, 3) := by decide +kernel
theorem dX10_isDerived_32 : decode cX10_isDerived 32 = .ok (.iconst 2, 1) := by decide +kernel
theorem dX10_isDerived_33 : decode cX10_isDerived 33 = .ok (.invokevirtual 107, 3) := by decide +kernel
theorem dX10_isDerived_36 : decode cX10_isDerived 36 = .ok (.ireturn, 1) := by decide +kernel
set_option maxRecDepth 20000 in
theorem ggX10_derivedValue_X10_isDerived : GoodIn wsX10_derivedValue wsX10_isDerived := goodIn_r _ [6, 7, 8, 9, 10, 5, 11, 12, 13, 14, 1, 15, 16, 17, 18, 19, 20, 21, 22, 23, 24, 25, 26, 27, 28, 29, 30, 31, 32, 33, 34, 35, 36, 37, 38, 39, 40, 41, 42, 43, 44, 45, 46, 47, 48, 49, 50, 51, 52, 53, 54, 55, 56, 57, 58, 59, 60, 61, 62, 63, 64, 65, 66, 67, 68, 69, 70, 71, 72, 73, 74, 75, 76, 77, 78, 79] (by decide +kernel) (by decide +kernel)
set_option maxRecDepth 20000 in
theorem gX10_derivedValue_X10_isDerived : GoodIn wsX10_derivedValue (wsV RX10 207 RX10 yX10_isDerived wsX10_isDerived) := goodIn_app (goodIn_of _ (by decide +kernel)) ggX10_derivedValue_X10_isDerived
theorem dX10_derivedValue_0 : decode cX10_derivedValue 0 = .ok (.aload_n 0, 1) := by decide +kernel
theorem dX10_derivedValue_1 : decode cX10_derivedValue 1 = .ok (.iload_n 1, 1) := by decide +kernel
theorem dX10_derivedValue_2 : decode cX10_derivedValue 2 = .ok (.invokevirtual 207, 3) := by decide +kernel
theorem dX10_derivedValue_5 : decode cX10_derivedValue 5 = .ok (.ifCond .eq 12, 3) := by decide +kernel
theorem dX10_derivedValue_8 : decode cX10_derivedValue 8 = .ok (.aload_n 0, 1) := by decide +kernel
theorem dX10_derivedValue_9 : decode cX10_derivedValue 9 = .ok (.getfield 65, 3) := by decide +kernel
theorem dX10_derivedValue_12 : decode cX10_derivedValue 12 = .ok (.iload_n 1, 1) := by decide +kernel
theorem dX10_derivedValue_13 : decode cX10_derivedValue 13 = .ok (.iaload, 1) := by decide +kernel
theorem dX10_derivedValue_14 : decode cX10_derivedValue 14 = .ok (.goto 4, 3) := by decide +kernel
theorem dX10_derivedValue_17 : decode cX10_derivedValue 17 = .ok (.iconst 0, 1) := by decide +kernel
theorem dX10_derivedValue_18 : decode cX10_derivedValue 18 = .ok (.ireturn, 1) := by decide +kernel
set_option maxRecDepth 20000 in
theorem ggX10_derivedTime_X10_isDerived : GoodIn wsX10_derivedTime wsX10_isDerived := goodIn_r _ [6, 7, 8, 9, 10, 5, 11, 12, 13, 14, 15, 1, 16, 17, 18, 19, 20, 21, 22, 23, 24, 25, 26, 27, 28, 29, 30, 31, 32, 33, 34, 35, 36, 37, 38, 39, 40, 41, 42, 43, 44, 45, 46, 47, 48, 49, 50, 51, 52, 53, 54, 55, 56, 57, 58, 59, 60, 61, 62, 63, 64, 65, 66, 67, 68, 69, 70, 71, 72, 73, 74, 75, 76, 77, 78, 79] (by decide +kernel) (by decide +kernel)
set_option maxRecDepth 20000 in
theorem gX10_derivedTime_X10_isDerived : GoodIn wsX10_derivedTime (wsV RX10 207 RX10 yX10_isDerived wsX10_isDerived) := goodIn_app (goodIn_of _ (by decide +kernel)) ggX10_derivedTime_X10_isDerived
theorem dX10_derivedTime_0 : decode cX10_derivedTime 0 = .ok (.aload_n 0, 1) := by decide +kernel
theorem dX10_derivedTime_1 : decode cX10_derivedTime 1 = .ok (.iload_n 1, 1) := by decide +kernel
theorem dX10_derivedTime_2 : decode cX10_derivedTime 2 = .ok (.invokevirtual 207, 3) := by decide +kernel
theorem dX10_derivedTime_5 : decode cX10_derivedTime 5 = .ok (.ifCond .eq 12, 3) := by decide +kernel
theorem dX10_derivedTime_8 : decode cX10_derivedTime 8 = .ok (.aload_n 0, 1) := by decide +kernel
theorem dX10_derivedTime_9 : decode cX10_derivedTime 9 = .ok (.getfield 68, 3) := by decide +kernel
theorem dX10_derivedTime_12 : decode cX10_derivedTime 12 = .ok (.iload_n 1, 1) := by decide +kernel
theorem dX10_derivedTime_13 : decode cX10_derivedTime 13 = .ok (.iaload, 1) := by decide +kernel
theorem dX10_derivedTime_14 : decode cX10_derivedTime 14 = .ok (.goto 4, 3) := by decide +kernel
theorem dX10_derivedTime_17 : decode cX10_derivedTime 17 = .ok (.iconst 0, 1) := by decide +kernel
theorem dX10_derivedTime_18 : decode cX10_derivedTime 18 = .ok (.ireturn, 1) := by decide +kernel
set_option maxRecDepth 20000 in
theorem ggX10_matchesAt_X10_bits : GoodIn wsX10_matchesAt wsX10_bits := goodIn_r _ [6, 7, 8, 9, 10, 11, 12, 13, 14, 15, 16, 17, 18, 19, 20, 21, 22, 23, 24, 25, 26, 27, 28, 29, 30, 31, 32, 33, 34, 35, 36, 37, 38, 39, 40, 41, 42] (by decide +kernel) (by decide +kernel)
set_option maxRecDepth 20000 in
theorem gX10_matchesAt_X10_bits : GoodIn wsX10_matchesAt (wsV RX10 130 RX10 yX10_bits wsX10_bits) := goodIn_app (goodIn_of _ (by decide +kernel)) ggX10_matchesAt_X10_bits
theorem dX10_matchesAt_0 : decode cX10_matchesAt 0 = .ok (.iconst 0, 1) := by decide +kernel
theorem dX10_matchesAt_1 : decode cX10_matchesAt 1 = .ok (.istore_n 2, 1) := by decide +kernel
theorem dX10_matchesAt_2 : decode cX10_matchesAt 2 = .ok (.iload_n 1, 1) := by decide +kernel
theorem dX10_matchesAt_3 : decode cX10_matchesAt 3 = .ok (.istore_n 3, 1) := by decide +kernel
theorem dX10_matchesAt_4 : decode cX10_matchesAt 4 = .ok (.iload_n 3, 1) := by decide +kernel
theorem dX10_matchesAt_5 : decode cX10_matchesAt 5 = .ok (.bipush 8, 2) := by decide +kernel
theorem dX10_matchesAt_7 : decode cX10_matchesAt 7 = .ok (.iadd, 1) := by decide +kernel
theorem dX10_matchesAt_8 : decode cX10_matchesAt 8 = .ok (.aload_n 0, 1) := by decide +kernel
theorem dX10_matchesAt_9 : decode cX10_matchesAt 9 = .ok (.getfield 164, 3) := by decide +kernel
theorem dX10_matchesAt_12 : decode cX10_matchesAt 12 = .ok (.if_icmp .gt 30, 3) := by decide +kernel
theorem dX10_matchesAt_15 : decode cX10_matchesAt 15 = .ok (.iload_n 2, 1) := by decide +kernel
theorem dX10_matchesAt_16 : decode cX10_matchesAt 16 = .ok (.aload_n 0, 1) := by decide +kernel
theorem dX10_matchesAt_17 : decode cX10_matchesAt 17 = .ok (.iload_n 3, 1) := by decide +kernel
theorem dX10_matchesAt_18 : decode cX10_matchesAt 18 = .ok (.bipush 8, 2) := by decide +kernel
theorem dX10_matchesAt_20 : decode cX10_matchesAt 20 = .ok (.invokevirtual 130, 3) := by decide +kernel
theorem dX10_matchesAt_23 : decode cX10_matchesAt 23 = .ok (.sipush 184, 3) := by decide +kernel
theorem dX10_matchesAt_26 : decode cX10_matchesAt 26 = .ok (.if_icmp .ne 7, 3) := by decide +kernel
theorem dX10_matchesAt_29 : decode cX10_matchesAt 29 = .ok (.iconst 1, 1) := by decide +kernel
theorem dX10_matchesAt_30 : decode cX10_matchesAt 30 = .ok (.goto 4, 3) := by decide +kernel
theorem dX10_matchesAt_33 : decode cX10_matchesAt 33 = .ok (.iconst 0, 1) := by decide +kernel
theorem dX10_matchesAt_34 : decode cX10_matchesAt 34 = .ok (.iadd, 1) := by decide +kernel
theorem dX10_matchesAt_35 : decode cX10_matchesAt 35 = .ok (.istore_n 2, 1) := by decide +kernel
theorem dX10_matchesAt_36 : decode cX10_matchesAt 36 = .ok (.iinc 3 64, 3) := by decide +kernel
theorem dX10_matchesAt_39 : decode cX10_matchesAt 39 = .ok (.goto (-35), 3) := by decide +kernel
theorem dX10_matchesAt_42 : decode cX10_matchesAt 42 = .ok (.iload_n 2, 1) := by decide +kernel
theorem dX10_matchesAt_43 : decode cX10_matchesAt 43 = .ok (.ireturn, 1) := by decide +kernel
set_option maxRecDepth 20000 in
theorem ggX10_matches_X10_isIn : GoodIn wsX10_matches wsX10_isIn := goodIn_r _ [4] (by decide +kernel) (by decide +kernel)
set_option maxRecDepth 20000 in
theorem gX10_matches_X10_isIn : GoodIn wsX10_matches (va_wsS RX10 84 yX10_isIn wsX10_isIn) := goodIn_app (goodIn_of _ (by decide +kernel)) ggX10_matches_X10_isIn
set_option maxRecDepth 20000 in
theorem ggX10_matches_X10_can : GoodIn wsX10_matches wsX10_can := goodIn_r _ [8, 9, 20, 21, 22, 23, 24, 25, 26, 27, 28, 29, 30, 31, 32, 33, 34, 35, 36, 37, 38, 39, 40, 41, 42, 43, 44, 45, 46, 47, 48, 49, 50, 51, 52, 53, 54] (by decide +kernel) (by decide +kernel)
set_option maxRecDepth 20000 in
theorem gX10_matches_X10_can : GoodIn wsX10_matches (wsV RX10 107 RX10 yX10_can wsX10_can) := goodIn_app (goodIn_of _ (by decide +kernel)) ggX10_matches_X10_can
set_option maxRecDepth 20000 in
theorem ggX10_matches_X10_matchesAt : GoodIn wsX10_matches wsX10_matchesAt := goodIn_r _ [13, 14, 15, 16, 17, 3, 18, 19, 20, 21, 22, 23, 24, 25, 26, 27, 28, 29, 30, 31, 32, 33, 34, 35, 36, 37, 38, 39, 40, 41, 42, 43, 44, 45, 46, 47, 48, 49, 50, 51, 52, 53, 54] (by decide +kernel) (by decide +kernel)
set_option maxRecDepth 20000 in
theorem gX10_matches_X10_matchesAt : GoodIn wsX10_matches (wsV RX10 210 RX10 yX10_matchesAt wsX10_matchesAt) := goodIn_app (goodIn_of _ (by decide +kernel)) ggX10_matches_X10_matchesAt
theorem dX10_matches_0 : decode cX10_matches 0 = .ok (.aload_n 0, 1) := by decide +kernel
theorem dX10_matches_1 : decode cX10_matches 1 = .ok (.iload_n 1, 1) := by decide +kernel
theorem dX10_matches_2 : decode cX10_matches 2 = .ok (.iconst 0, 1) := by decide +kernel
theorem dX10_matches_3 : decode cX10_matches 3 = .ok (.bipush 63, 2) := by decide +kernel
theorem dX10_matches_5 : decode cX10_matches 5 = .ok (.invokestatic 84, 3) := by decide +kernel
theorem dX10_matches_8 : decode cX10_matches 8 = .ok (.ifCond .eq 7, 3) := by decide +kernel
theorem dX10_matches_11 : decode cX10_matches 11 = .ok (.iconst 0, 1) := by decide +kernel
theorem dX10_matches_12 : decode cX10_matches 12 = .ok (.goto 4, 3) := by decide +kernel
theorem dX10_matches_15 : decode cX10_matches 15 = .ok (.iconst 1, 1) := by decide +kernel
theorem dX10_matches_16 : decode cX10_matches 16 = .ok (.invokevirtual 107, 3) := by decide +kernel
theorem dX10_matches_19 : decode cX10_matches 19 = .ok (.ifCond .eq 11, 3) := by decide +kernel
theorem dX10_matches_22 : decode cX10_matches 22 = .ok (.aload_n 0, 1) := by decide +kernel
theorem dX10_matches_23 : decode cX10_matches 23 = .ok (.iload_n 1, 1) := by decide +kernel
theorem dX10_matches_24 : decode cX10_matches 24 = .ok (.invokevirtual 210, 3) := by decide +kernel
theorem dX10_matches_27 : decode cX10_matches 27 = .ok (.goto 4, 3) := by decide +kernel
theorem dX10_matches_30 : decode cX10_matches 30 = .ok (.iconst 0, 1) := by decide +kernel
theorem dX10_matches_31 : decode cX10_matches 31 = .ok (.ireturn, 1) := by decide +kernel
set_option maxRecDepth 20000 in
theorem ggX10_bestOffset_X10_matchesAt : GoodIn wsX10_bestOffset wsX10_matchesAt := goodIn_r _ [6, 7, 8, 9, 10, 5, 11, 12, 13, 14, 15, 16, 17, 18, 19, 20, 21, 22, 23, 24, 25, 26, 27, 28, 29, 30, 31, 32, 33, 34, 35, 36, 37, 38, 39, 40, 41, 42, 43, 44, 45, 46, 47] (by decide +kernel) (by decide +kernel)
set_option maxRecDepth 20000 in
theorem gX10_bestOffset_X10_matchesAt : GoodIn wsX10_bestOffset (wsV RX10 210 RX10 yX10_matchesAt wsX10_matchesAt) := goodIn_app (goodIn_of _ (by decide +kernel)) ggX10_bestOffset_X10_matchesAt
theorem dX10_bestOffset_0 : decode cX10_bestOffset 0 = .ok (.aload_n 0, 1) := by decide +kernel
theorem dX10_bestOffset_1 : decode cX10_bestOffset 1 = .ok (.iconst 0, 1) := by decide +kernel
theorem dX10_bestOffset_2 : decode cX10_bestOffset 2 = .ok (.putfield 78, 3) := by decide +kernel
theorem dX10_bestOffset_5 : decode cX10_bestOffset 5 = .ok (.iconst 0, 1) := by decide +kernel
theorem dX10_bestOffset_6 : decode cX10_bestOffset 6 = .ok (.istore_n 1, 1) := by decide +kernel
theorem dX10_bestOffset_7 : decode cX10_bestOffset 7 = .ok (.iconst 1, 1) := by decide +kernel
theorem dX10_bestOffset_8 : decode cX10_bestOffset 8 = .ok (.istore_n 2, 1) := by decide +kernel
theorem dX10_bestOffset_9 : decode cX10_bestOffset 9 = .ok (.iload_n 2, 1) := by decide +kernel
theorem dX10_bestOffset_10 : decode cX10_bestOffset 10 = .ok (.bipush 64, 2) := by decide +kernel
theorem dX10_bestOffset_12 : decode cX10_bestOffset 12 = .ok (.if_icmp .ge 28, 3) := by decide +kernel
theorem dX10_bestOffset_15 : decode cX10_bestOffset 15 = .ok (.aload_n 0, 1) := by decide +kernel
theorem dX10_bestOffset_16 : decode cX10_bestOffset 16 = .ok (.iload_n 2, 1) := by decide +kernel
theorem dX10_bestOffset_17 : decode cX10_bestOffset 17 = .ok (.invokevirtual 210, 3) := by decide +kernel
theorem dX10_bestOffset_20 : decode cX10_bestOffset 20 = .ok (.aload_n 0, 1) := by decide +kernel
theorem dX10_bestOffset_21 : decode cX10_bestOffset 21 = .ok (.iload_n 1, 1) := by decide +kernel
theorem dX10_bestOffset_22 : decode cX10_bestOffset 22 = .ok (.invokevirtual 210, 3) := by decide +kernel
theorem dX10_bestOffset_25 : decode cX10_bestOffset 25 = .ok (.if_icmp .le 7, 3) := by decide +kernel
theorem dX10_bestOffset_28 : decode cX10_bestOffset 28 = .ok (.iload_n 2, 1) := by decide +kernel
theorem dX10_bestOffset_29 : decode cX10_bestOffset 29 = .ok (.goto 4, 3) := by decide +kernel
theorem dX10_bestOffset_32 : decode cX10_bestOffset 32 = .ok (.iload_n 1, 1) := by decide +kernel
theorem dX10_bestOffset_33 : decode cX10_bestOffset 33 = .ok (.istore_n 1, 1) := by decide +kernel
theorem dX10_bestOffset_34 : decode cX10_bestOffset 34 = .ok (.iinc 2 1, 3) := by decide +kernel
theorem dX10_bestOffset_37 : decode cX10_bestOffset 37 = .ok (.goto (-28), 3) := by decide +kernel
theorem dX10_bestOffset_40 : decode cX10_bestOffset 40 = .ok (.iload_n 1, 1) := by decide +kernel
theorem dX10_bestOffset_41 : decode cX10_bestOffset 41 = .ok (.ireturn, 1) := by decide +kernel
theorem dJ6_bitCount_0f7a4_0 : decode cJ6_bitCount_0f7a4 0 = .ok (.iload_n 0, 1) := by decide +kernel
theorem dJ6_bitCount_0f7a4_1 : decode cJ6_bitCount_0f7a4 1 = .ok (.iload_n 0, 1) := by decide +kernel
theorem dJ6_bitCount_0f7a4_2 : decode cJ6_bitCount_0f7a4 2 = .ok (.iconst 1, 1) := by decide +kernel
theorem dJ6_bitCount_0f7a4_3 : decode cJ6_bitCount_0f7a4 3 = .ok (.iushr, 1) := by decide +kernel
theorem dJ6_bitCount_0f7a4_4 : decode cJ6_bitCount_0f7a4 4 = .ok (.ldc_w 265, 3) := by decide +kernel
theorem dJ6_bitCount_0f7a4_7 : decode cJ6_bitCount_0f7a4 7 = .ok (.iand, 1) := by decide +kernel
theorem dJ6_bitCount_0f7a4_8 : decode cJ6_bitCount_0f7a4 8 = .ok (.isub, 1) := by decide +kernel
theorem dJ6_bitCount_0f7a4_9 : decode cJ6_bitCount_0f7a4 9 = .ok (.istore_n 0, 1) := by decide +kernel
theorem dJ6_bitCount_0f7a4_10 : decode cJ6_bitCount_0f7a4 10 = .ok (.iload_n 0, 1) := by decide +kernel
theorem dJ6_bitCount_0f7a4_11 : decode cJ6_bitCount_0f7a4 11 = .ok (.ldc_w 266, 3) := by decide +kernel
theorem dJ6_bitCount_0f7a4_14 : decode cJ6_bitCount_0f7a4 14 = .ok (.iand, 1) := by decide +kernel
theorem dJ6_bitCount_0f7a4_15 : decode cJ6_bitCount_0f7a4 15 = .ok (.iload_n 0, 1) := by decide +kernel
theorem dJ6_bitCount_0f7a4_16 : decode cJ6_bitCount_0f7a4 16 = .ok (.iconst 2, 1) := by decide +kernel
theorem dJ6_bitCount_0f7a4_17 : decode cJ6_bitCount_0f7a4 17 = .ok (.iushr, 1) := by decide +kernel
theorem dJ6_bitCount_0f7a4_18 : decode cJ6_bitCount_0f7a4 18 = .ok (.ldc_w 266, 3) := by decide +kernel
theorem dJ6_bitCount_0f7a4_21 : decode cJ6_bitCount_0f7a4 21 = .ok (.iand, 1) := by decide +kernel
theorem dJ6_bitCount_0f7a4_22 : decode cJ6_bitCount_0f7a4 22 = .ok (.iadd, 1) := by decide +kernel
theorem dJ6_bitCount_0f7a4_23 : decode cJ6_bitCount_0f7a4 23 = .ok (.istore_n 0, 1) := by decide +kernel
theorem dJ6_bitCount_0f7a4_24 : decode cJ6_bitCount_0f7a4 24 = .ok (.iload_n 0, 1) := by decide +kernel
theorem dJ6_bitCount_0f7a4_25 : decode cJ6_bitCount_0f7a4 25 = .ok (.iload_n 0, 1) := by decide +kernel
theorem dJ6_bitCount_0f7a4_26 : decode cJ6_bitCount_0f7a4 26 = .ok (.iconst 4, 1) := by decide +kernel
theorem dJ6_bitCount_0f7a4_27 : decode cJ6_bitCount_0f7a4 27 = .ok (.iushr, 1) := by decide +kernel
theorem dJ6_bitCount_0f7a4_28 : decode cJ6_bitCount_0f7a4 28 = .ok (.iadd, 1) := by decide +kernel
theorem dJ6_bitCount_0f7a4_29 : decode cJ6_bitCount_0f7a4 29 = .ok (.ldc_w 267, 3) := by decide +kernel
theorem dJ6_bitCount_0f7a4_32 : decode cJ6_bitCount_0f7a4 32 = .ok (.iand, 1) := by decide +kernel
theorem dJ6_bitCount_0f7a4_33 : decode cJ6_bitCount_0f7a4 33 = .ok (.istore_n 0, 1) := by decide +kernel
theorem dJ6_bitCount_0f7a4_34 : decode cJ6_bitCount_0f7a4 34 = .ok (.iload_n 0, 1) := by decide +kernel
theorem dJ6_bitCount_0f7a4_35 : decode cJ6_bitCount_0f7a4 35 = .ok (.iload_n 0, 1) := by decide +kernel
theorem dJ6_bitCount_0f7a4_36 : decode cJ6_bitCount_0f7a4 36 = .ok (.bipush 8, 2) := by decide +kernel
theorem dJ6_bitCount_0f7a4_38 : decode cJ6_bitCount_0f7a4 38 = .ok (.iushr, 1) := by decide +kernel
theorem dJ6_bitCount_0f7a4_39 : decode cJ6_bitCount_0f7a4 39 = .ok (.iadd, 1) := by decide +kernel
theorem dJ6_bitCount_0f7a4_40 : decode cJ6_bitCount_0f7a4 40 = .ok (.istore_n 0, 1) := by decide +kernel
theorem dJ6_bitCount_0f7a4_41 : decode cJ6_bitCount_0f7a4 41 = .ok (.iload_n 0, 1) := by decide +kernel
theorem dJ6_bitCount_0f7a4_42 : decode cJ6_bitCount_0f7a4 42 = .ok (.iload_n 0, 1) := by decide +kernel
theorem dJ6_bitCount_0f7a4_43 : decode cJ6_bitCount_0f7a4 43 = .ok (.bipush 16, 2) := by decide +kernel
theorem dJ6_bitCount_0f7a4_45 : decode cJ6_bitCount_0f7a4 45 = .ok (.iushr, 1) := by decide +kernel
theorem dJ6_bitCount_0f7a4_46 : decode cJ6_bitCount_0f7a4 46 = .ok (.iadd, 1) := by decide +kernel
theorem dJ6_bitCount_0f7a4_47 : decode cJ6_bitCount_0f7a4 47 = .ok (.istore_n 0, 1) := by decide +kernel
theorem dJ6_bitCount_0f7a4_48 : decode cJ6_bitCount_0f7a4 48 = .ok (.iload_n 0, 1) := by decide +kernel
theorem dJ6_bitCount_0f7a4_49 : decode cJ6_bitCount_0f7a4 49 = .ok (.bipush 63, 2) := by decide +kernel
theorem dJ6_bitCount_0f7a4_51 : decode cJ6_bitCount_0f7a4 51 = .ok (.iand, 1) := by decide +kernel
theorem dJ6_bitCount_0f7a4_52 : decode cJ6_bitCount_0f7a4 52 = .ok (.ireturn, 1) := by decide +kernel
theorem dJ13_bitCount_95d88_0 : decode cJ13_bitCount_95d88 0 = .ok (.lload_n 0, 1) := by decide +kernel
theorem dJ13_bitCount_95d88_1 : decode cJ13_bitCount_95d88 1 = .ok (.lload_n 0, 1) := by decide +kernel
theorem dJ13_bitCount_95d88_2 : decode cJ13_bitCount_95d88 2 = .ok (.iconst 1, 1) := by decide +kernel
theorem dJ13_bitCount_95d88_3 : decode cJ13_bitCount_95d88 3 = .ok (.lushr, 1) := by decide +kernel
theorem dJ13_bitCount_95d88_4 : decode cJ13_bitCount_95d88 4 = .ok (.ldc2_w 314, 3) := by decide +kernel
theorem dJ13_bitCount_95d88_7 : decode cJ13_bitCount_95d88 7 = .ok (.land, 1) := by decide +kernel
theorem dJ13_bitCount_95d88_8 : decode cJ13_bitCount_95d88 8 = .ok (.lsub, 1) := by decide +kernel
theorem dJ13_bitCount_95d88_9 : decode cJ13_bitCount_95d88 9 = .ok (.lstore_n 0, 1) := by decide +kernel
theorem dJ13_bitCount_95d88_10 : decode cJ13_bitCount_95d88 10 = .ok (.lload_n 0, 1) := by decide +kernel
theorem dJ13_bitCount_95d88_11 : decode cJ13_bitCount_95d88 11 = .ok (.ldc2_w 316, 3) := by decide +kernel
theorem dJ13_bitCount_95d88_14 : decode cJ13_bitCount_95d88 14 = .ok (.land, 1) := by decide +kernel
theorem dJ13_bitCount_95d88_15 : decode cJ13_bitCount_95d88 15 = .ok (.lload_n 0, 1) := by decide +kernel
theorem dJ13_bitCount_95d88_16 : decode cJ13_bitCount_95d88 16 = .ok (.iconst 2, 1) := by decide +kernel
theorem dJ13_bitCount_95d88_17 : decode cJ13_bitCount_95d88 17 = .ok (.lushr, 1) := by decide +kernel
theorem dJ13_bitCount_95d88_18 : decode cJ13_bitCount_95d88 18 = .ok (.ldc2_w 316, 3) := by decide +kernel
theorem dJ13_bitCount_95d88_21 : decode cJ13_bitCount_95d88 21 = .ok (.land, 1) := by decide +kernel
theorem dJ13_bitCount_95d88_22 : decode cJ13_bitCount_95d88 22 = .ok (.ladd, 1) := by decide +kernel
theorem dJ13_bitCount_95d88_23 : decode cJ13_bitCount_95d88 23 = .ok (.lstore_n 0, 1) := by decide +kernel
theorem dJ13_bitCount_95d88_24 : decode cJ13_bitCount_95d88 24 = .ok (.lload_n 0, 1) := by decide +kernel
theorem dJ13_bitCount_95d88_25 : decode cJ13_bitCount_95d88 25 = .ok (.lload_n 0, 1) := by decide +kernel
theorem dJ13_bitCount_95d88_26 : decode cJ13_bitCount_95d88 26 = .ok (.iconst 4, 1) := by decide +kernel
theorem dJ13_bitCount_95d88_27 : decode cJ13_bitCount_95d88 27 = .ok (.lushr, 1) := by decide +kernel
theorem dJ13_bitCount_95d88_28 : decode cJ13_bitCount_95d88 28 = .ok (.ladd, 1) := by decide +kernel
theorem dJ13_bitCount_95d88_29 : decode cJ13_bitCount_95d88 29 = .ok (.ldc2_w 318, 3) := by decide +kernel
theorem dJ13_bitCount_95d88_32 : decode cJ13_bitCount_95d88 32 = .ok (.land, 1) := by decide +kernel
theorem dJ13_bitCount_95d88_33 : decode cJ13_bitCount_95d88 33 = .ok (.lstore_n 0, 1) := by decide +kernel
theorem dJ13_bitCount_95d88_34 : decode cJ13_bitCount_95d88 34 = .ok (.lload_n 0, 1) := by decide +kernel
theorem dJ13_bitCount_95d88_35 : decode cJ13_bitCount_95d88 35 = .ok (.lload_n 0, 1) := by decide +kernel
theorem dJ13_bitCount_95d88_36 : decode cJ13_bitCount_95d88 36 = .ok (.bipush 8, 2) := by decide +kernel
theorem dJ13_bitCount_95d88_38 : decode cJ13_bitCount_95d88 38 = .ok (.lushr, 1) := by decide +kernel
theorem dJ13_bitCount_95d88_39 : decode cJ13_bitCount_95d88 39 = .ok (.ladd, 1) := by decide +kernel
theorem dJ13_bitCount_95d88_40 : decode cJ13_bitCount_95d88 40 = .ok (.lstore_n 0, 1) := by decide +kernel
theorem dJ13_bitCount_95d88_41 : decode cJ13_bitCount_95d88 41 = .ok (.lload_n 0, 1) := by decide +kernel
theorem dJ13_bitCount_95d88_42 : decode cJ13_bitCount_95d88 42 = .ok (.lload_n 0, 1) := by decide +kernel
theorem dJ13_bitCount_95d88_43 : decode cJ13_bitCount_95d88 43 = .ok (.bipush 16, 2) := by decide +kernel
theorem dJ13_bitCount_95d88_45 : decode cJ13_bitCount_95d88 45 = .ok (.lushr, 1) := by decide +kernel
theorem dJ13_bitCount_95d88_46 : decode cJ13_bitCount_95d88 46 = .ok (.ladd, 1) := by decide +kernel
theorem dJ13_bitCount_95d88_47 : decode cJ13_bitCount_95d88 47 = .ok (.lstore_n 0, 1) := by decide +kernel
theorem dJ13_bitCount_95d88_48 : decode cJ13_bitCount_95d88 48 = .ok (.lload_n 0, 1) := by decide +kernel
theorem dJ13_bitCount_95d88_49 : decode cJ13_bitCount_95d88 49 = .ok (.lload_n 0, 1) := by decide +kernel
theorem dJ13_bitCount_95d88_50 : decode cJ13_bitCount_95d88 50 = .ok (.bipush 32, 2) := by decide +kernel
theorem dJ13_bitCount_95d88_52 : decode cJ13_bitCount_95d88 52 = .ok (.lushr, 1) := by decide +kernel
theorem dJ13_bitCount_95d88_53 : decode cJ13_bitCount_95d88 53 = .ok (.ladd, 1) := by decide +kernel
theorem dJ13_bitCount_95d88_54 : decode cJ13_bitCount_95d88 54 = .ok (.lstore_n 0, 1) := by decide +kernel
theorem dJ13_bitCount_95d88_55 : decode cJ13_bitCount_95d88 55 = .ok (.lload_n 0, 1) := by decide +kernel
theorem dJ13_bitCount_95d88_56 : decode cJ13_bitCount_95d88 56 = .ok (.l2i, 1) := by decide +kernel
theorem dJ13_bitCount_95d88_57 : decode cJ13_bitCount_95d88 57 = .ok (.bipush 127, 2) := by decide +kernel
theorem dJ13_bitCount_95d88_59 : decode cJ13_bitCount_95d88 59 = .ok (.iand, 1) := by decide +kernel
theorem dJ13_bitCount_95d88_60 : decode cJ13_bitCount_95d88 60 = .ok (.ireturn, 1) := by decide +kernel
theorem dJ9_max_7cf53_0 : decode cJ9_max_7cf53 0 = .ok (.iload_n 0, 1) := by decide +kernel
theorem dJ9_max_7cf53_1 : decode cJ9_max_7cf53 1 = .ok (.iload_n 1, 1) := by decide +kernel
theorem dJ9_max_7cf53_2 : decode cJ9_max_7cf53 2 = .ok (.if_icmp .lt 7, 3) := by decide +kernel
theorem dJ9_max_7cf53_5 : decode cJ9_max_7cf53 5 = .ok (.iload_n 0, 1) := by decide +kernel
theorem dJ9_max_7cf53_6 : decode cJ9_max_7cf53 6 = .ok (.goto 4, 3) := by decide +kernel
theorem dJ9_max_7cf53_9 : decode cJ9_max_7cf53 9 = .ok (.iload_n 1, 1) := by decide +kernel
theorem dJ9_max_7cf53_10 : decode cJ9_max_7cf53 10 = .ok (.ireturn, 1) := by decide +kernel
theorem dJ9_max_f86c9_0 : decode cJ9_max_f86c9 0 = .ok (.lload_n 0, 1) := by decide +kernel
theorem dJ9_max_f86c9_1 : decode cJ9_max_f86c9 1 = .ok (.lload_n 2, 1) := by decide +kernel
theorem dJ9_max_f86c9_2 : decode cJ9_max_f86c9 2 = .ok (.lcmp, 1) := by decide +kernel
theorem dJ9_max_f86c9_3 : decode cJ9_max_f86c9 3 = .ok (.ifCond .lt 7, 3) := by decide +kernel
theorem dJ9_max_f86c9_6 : decode cJ9_max_f86c9 6 = .ok (.lload_n 0, 1) := by decide +kernel
theorem dJ9_max_f86c9_7 : decode cJ9_max_f86c9 7 = .ok (.goto 4, 3) := by decide +kernel
theorem dJ9_max_f86c9_10 : decode cJ9_max_f86c9 10 = .ok (.lload_n 2, 1) := by decide +kernel
theorem dJ9_max_f86c9_11 : decode cJ9_max_f86c9 11 = .ok (.lreturn, 1) := by decide +kernel
theorem dJ9_min_7cf53_0 : decode cJ9_min_7cf53 0 = .ok (.iload_n 0, 1) := by decide +kernel
theorem dJ9_min_7cf53_1 : decode cJ9_min_7cf53 1 = .ok (.iload_n 1, 1) := by decide +kernel
theorem dJ9_min_7cf53_2 : decode cJ9_min_7cf53 2 = .ok (.if_icmp .gt 7, 3) := by decide +kernel
theorem dJ9_min_7cf53_5 : decode cJ9_min_7cf53 5 = .ok (.iload_n 0, 1) := by decide +kernel
theorem dJ9_min_7cf53_6 : decode cJ9_min_7cf53 6 = .ok (.goto 4, 3) := by decide +kernel
theorem dJ9_min_7cf53_9 : decode cJ9_min_7cf53 9 = .ok (.iload_n 1, 1) := by decide +kernel
theorem dJ9_min_7cf53_10 : decode cJ9_min_7cf53 10 = .ok (.ireturn, 1) := by decide +kernel
theorem dJ9_min_f86c9_0 : decode cJ9_min_f86c9 0 = .ok (.lload_n 0, 1) := by decide +kernel
theorem dJ9_min_f86c9_1 : decode cJ9_min_f86c9 1 = .ok (.lload_n 2, 1) := by decide +kernel
theorem dJ9_min_f86c9_2 : decode cJ9_min_f86c9 2 = .ok (.lcmp, 1) := by decide +kernel
theorem dJ9_min_f86c9_3 : decode cJ9_min_f86c9 3 = .ok (.ifCond .gt 7, 3) := by decide +kernel
theorem dJ9_min_f86c9_6 : decode cJ9_min_f86c9 6 = .ok (.lload_n 0, 1) := by decide +kernel
theorem dJ9_min_f86c9_7 : decode cJ9_min_f86c9 7 = .ok (.goto 4, 3) := by decide +kernel
theorem dJ9_min_f86c9_10 : decode cJ9_min_f86c9 10 = .ok (.lload_n 2, 1) := by decide +kernel
theorem dJ9_min_f86c9_11 : decode cJ9_min_f86c9 11 = .ok (.lreturn, 1) := by decide +kernel
set_option maxRecDepth 20000 in
theorem ggL_addPoint_X9_addPoint : GoodIn wsL_addPoint wsX9_addPoint := goodIn_ca (goodIn_ca (goodIn_r _ [7, 8, 9, 10, 11, 12, 13, 14, 15, 6, 16, 17, 18, 19, 20, 21, 22, 23, 24, 25, 26, 27, 28, 29, 30, 31, 32, 33, 34, 35, 36, 37, 38, 39, 40, 41, 42, 43, 44, 45, 46, 47, 48, 49, 50, 51, 52, 53, 54, 55, 56, 57, 58, 59, 60, 61, 62, 63, 64, 65, 66, 67, 68, 69, 70, 71, 72, 73, 74, 75, 76, 77, 78, 79, 80, 81] (by decide +kernel) (by decide +kernel)) (goodIn_sub (fun _ h => List.mem_cons_of_mem _ (List.mem_append_left _ (List.mem_append_right _ h))) (by decide +kernel))) (goodIn_sub (fun _ h => List.mem_cons_of_mem _ (List.mem_append_right _ h)) (by decide +kernel))
set_option maxRecDepth 20000 in
theorem gL_addPoint_X9_addPoint : GoodIn wsL_addPoint (wsV RL 7 RX9 yX9_addPoint wsX9_addPoint) := goodIn_app (goodIn_of _ (by decide +kernel)) ggL_addPoint_X9_addPoint
theorem dL_addPoint_0 : decode cL_addPoint 0 = .ok (.aload 5, 2) := by decide +kernel
theorem dL_addPoint_2 : decode cL_addPoint 2 = .ok (.iconst 0, 1) := by decide +kernel
theorem dL_addPoint_3 : decode cL_addPoint 3 = .ok (.aload_n 0, 1) := by decide +kernel
theorem dL_addPoint_4 : decode cL_addPoint 4 = .ok (.iload_n 1, 1) := by decide +kernel
theorem dL_addPoint_5 : decode cL_addPoint 5 = .ok (.iload_n 2, 1) := by decide +kernel
theorem dL_addPoint_6 : decode cL_addPoint 6 = .ok (.iload_n 3, 1) := by decide +kernel
theorem dL_addPoint_7 : decode cL_addPoint 7 = .ok (.iload 4, 2) := by decide +kernel
theorem dL_addPoint_9 : decode cL_addPoint 9 = .ok (.invokevirtual 7, 3) := by decide +kernel
theorem dL_addPoint_12 : decode cL_addPoint 12 = .ok (.i2l, 1) := by decide +kernel
theorem dL_addPoint_13 : decode cL_addPoint 13 = .ok (.lastore, 1) := by decide +kernel
theorem dL_addPoint_14 : decode cL_addPoint 14 = .ok (.goto 11, 3) := by decide +kernel
theorem dL_addPoint_17 : decode cL_addPoint 17 = .ok (.astore 6, 2) := by decide +kernel
theorem dL_addPoint_19 : decode cL_addPoint 19 = .ok (.iconst 1, 1) := by decide +kernel
theorem dL_addPoint_20 : decode cL_addPoint 20 = .ok (.ireturn, 1) := by decide +kernel
theorem dL_addPoint_21 : decode cL_addPoint 21 = .ok (.astore 6, 2) := by decide +kernel
theorem dL_addPoint_23 : decode cL_addPoint 23 = .ok (.iconst 2, 1) := by decide +kernel
theorem dL_addPoint_24 : decode cL_addPoint 24 = .ok (.ireturn, 1) := by decide +kernel
theorem dL_addPoint_25 : decode cL_addPoint 25 = .ok (.iconst 0, 1) := by decide +kernel
theorem dL_addPoint_26 : decode cL_addPoint 26 = .ok (.ireturn, 1) := by decide +kernel
set_option maxRecDepth 20000 in
theorem ggL_place_X9_place : GoodIn wsL_place wsX9_place := goodIn_ca (goodIn_r _ [6, 7, 8, 9, 5, 10, 11, 12, 13, 14, 15, 16, 17, 18, 19, 20, 21, 22, 23, 24, 25, 26, 27, 28, 29, 30, 31, 32, 33, 34, 35, 36, 37, 38, 39] (by decide +kernel) (by decide +kernel)) (goodIn_sub (fun _ h => List.mem_cons_of_mem _ (List.mem_append_right _ h)) (by decide +kernel))
set_option maxRecDepth 20000 in
theorem gL_place_X9_place : GoodIn wsL_place (wsV RL 17 RX9 yX9_place wsX9_place) := goodIn_app (goodIn_of _ (by decide +kernel)) ggL_place_X9_place
theorem dL_place_0 : decode cL_place 0 = .ok (.aload_n 2, 1) := by decide +kernel
theorem dL_place_1 : decode cL_place 1 = .ok (.iconst 0, 1) := by decide +kernel
theorem dL_place_2 : decode cL_place 2 = .ok (.aload_n 0, 1) := by decide +kernel
theorem dL_place_3 : decode cL_place 3 = .ok (.iload_n 1, 1) := by decide +kernel
theorem dL_place_4 : decode cL_place 4 = .ok (.invokevirtual 17, 3) := by decide +kernel
theorem dL_place_7 : decode cL_place 7 = .ok (.i2l, 1) := by decide +kernel
theorem dL_place_8 : decode cL_place 8 = .ok (.lastore, 1) := by decide +kernel
theorem dL_place_9 : decode cL_place 9 = .ok (.goto 6, 3) := by decide +kernel
theorem dL_place_12 : decode cL_place 12 = .ok (.astore_n 3, 1) := by decide +kernel
theorem dL_place_13 : decode cL_place 13 = .ok (.iconst 1, 1) := by decide +kernel
theorem dL_place_14 : decode cL_place 14 = .ok (.ireturn, 1) := by decide +kernel
theorem dL_place_15 : decode cL_place 15 = .ok (.iconst 0, 1) := by decide +kernel
theorem dL_place_16 : decode cL_place 16 = .ok (.ireturn, 1) := by decide +kernel
set_option maxRecDepth 20000 in
theorem ggL_put_X9_put : GoodIn wsL_put wsX9_put := goodIn_ca (goodIn_ca (goodIn_r _ [7, 8, 9, 10, 11, 12, 6, 13, 14, 15, 16, 17, 18, 19, 20, 21, 22, 23, 24, 25, 26, 27, 28, 29, 30, 31, 32, 33, 34, 35, 36, 37, 38, 39, 40, 41, 42, 43, 44, 45, 46, 47, 48, 49, 50, 51, 52, 53, 54, 55, 56, 57] (by decide +kernel) (by decide +kernel)) (goodIn_sub (fun _ h => List.mem_cons_of_mem _ (List.mem_append_left _ (List.mem_append_right _ h))) (by decide +kernel))) (goodIn_sub (fun _ h => List.mem_cons_of_mem _ (List.mem_append_right _ h)) (by decide +kernel))
set_option maxRecDepth 20000 in
theorem gL_put_X9_put : GoodIn wsL_put (wsV RL 23 RX9 yX9_put wsX9_put) := goodIn_app (goodIn_of _ (by decide +kernel)) ggL_put_X9_put
theorem dL_put_0 : decode cL_put 0 = .ok (.aload_n 3, 1) := by decide +kernel
theorem dL_put_1 : decode cL_put 1 = .ok (.iconst 0, 1) := by decide +kernel
theorem dL_put_2 : decode cL_put 2 = .ok (.aload_n 0, 1) := by decide +kernel
theorem dL_put_3 : decode cL_put 3 = .ok (.iload_n 1, 1) := by decide +kernel
theorem dL_put_4 : decode cL_put 4 = .ok (.iload_n 2, 1) := by decide +kernel
theorem dL_put_5 : decode cL_put 5 = .ok (.invokevirtual 23, 3) := by decide +kernel
theorem dL_put_8 : decode cL_put 8 = .ok (.i2l, 1) := by decide +kernel
theorem dL_put_9 : decode cL_put 9 = .ok (.lastore, 1) := by decide +kernel
theorem dL_put_10 : decode cL_put 10 = .ok (.goto 11, 3) := by decide +kernel
theorem dL_put_13 : decode cL_put 13 = .ok (.astore 4, 2) := by decide +kernel
theorem dL_put_15 : decode cL_put 15 = .ok (.iconst 1, 1) := by decide +kernel
theorem dL_put_16 : decode cL_put 16 = .ok (.ireturn, 1) := by decide +kernel
theorem dL_put_17 : decode cL_put 17 = .ok (.astore 4, 2) := by decide +kernel
theorem dL_put_19 : decode cL_put 19 = .ok (.iconst 2, 1) := by decide +kernel
theorem dL_put_20 : decode cL_put 20 = .ok (.ireturn, 1) := by decide +kernel
theorem dL_put_21 : decode cL_put 21 = .ok (.iconst 0, 1) := by decide +kernel
theorem dL_put_22 : decode cL_put 22 = .ok (.ireturn, 1) := by decide +kernel
set_option maxRecDepth 20000 in
theorem ggL_send_X9_send : GoodIn wsL_send wsX9_send := goodIn_ca (goodIn_ca (goodIn_r _ [7, 8, 9, 10, 11, 12, 13, 14, 15, 16, 17, 18, 19, 20, 21, 22, 23, 24, 25, 26, 27, 28, 29, 30, 31, 32, 33, 34, 35, 36, 37, 38, 39, 40, 41, 42, 43, 44, 45, 46, 47, 48, 49, 50, 51, 52, 53, 54, 55, 56, 57, 58, 59, 60, 61, 62, 63, 64, 65, 66, 67, 68, 69, 70, 71, 72, 73, 74, 75, 76, 77, 78, 79, 80, 81, 82, 83, 84, 85, 86, 87, 88, 89, 90, 91, 92, 93, 94, 95, 96, 97, 98, 99, 100, 101] (by decide +kernel) (by decide +kernel)) (goodIn_sub (fun _ h => List.mem_cons_of_mem _ (List.mem_append_left _ (List.mem_append_right _ h))) (by decide +kernel))) (goodIn_sub (fun _ h => List.mem_cons_of_mem _ (List.mem_append_right _ h)) (by decide +kernel))
set_option maxRecDepth 20000 in
theorem gL_send_X9_send : GoodIn wsL_send (wsV RL 27 RX9 yX9_send wsX9_send) := goodIn_app (goodIn_of _ (by decide +kernel)) ggL_send_X9_send
theorem dL_send_0 : decode cL_send 0 = .ok (.aload_n 2, 1) := by decide +kernel
theorem dL_send_1 : decode cL_send 1 = .ok (.iconst 0, 1) := by decide +kernel
theorem dL_send_2 : decode cL_send 2 = .ok (.aload_n 0, 1) := by decide +kernel
theorem dL_send_3 : decode cL_send 3 = .ok (.iload_n 1, 1) := by decide +kernel
theorem dL_send_4 : decode cL_send 4 = .ok (.invokevirtual 27, 3) := by decide +kernel
theorem dL_send_7 : decode cL_send 7 = .ok (.i2l, 1) := by decide +kernel
theorem dL_send_8 : decode cL_send 8 = .ok (.lastore, 1) := by decide +kernel
theorem dL_send_9 : decode cL_send 9 = .ok (.goto 9, 3) := by decide +kernel
theorem dL_send_12 : decode cL_send 12 = .ok (.astore_n 3, 1) := by decide +kernel
theorem dL_send_13 : decode cL_send 13 = .ok (.iconst 1, 1) := by decide +kernel
theorem dL_send_14 : decode cL_send 14 = .ok (.ireturn, 1) := by decide +kernel
theorem dL_send_15 : decode cL_send 15 = .ok (.astore_n 3, 1) := by decide +kernel
theorem dL_send_16 : decode cL_send 16 = .ok (.iconst 2, 1) := by decide +kernel
theorem dL_send_17 : decode cL_send 17 = .ok (.ireturn, 1) := by decide +kernel
theorem dL_send_18 : decode cL_send 18 = .ok (.iconst 0, 1) := by decide +kernel
theorem dL_send_19 : decode cL_send 19 = .ok (.ireturn, 1) := by decide +kernel
set_option maxRecDepth 20000 in
theorem ggL_bit_X9_bit : GoodIn wsL_bit wsX9_bit := goodIn_ca (goodIn_r _ [6, 7, 8, 9, 10, 11, 12, 13, 14, 15, 16, 17, 18, 19, 20, 21, 22, 23, 24, 25, 26, 27, 28, 29, 30, 31, 32, 33, 34, 35] (by decide +kernel) (by decide +kernel)) (goodIn_sub (fun _ h => List.mem_cons_of_mem _ (List.mem_append_right _ h)) (by decide +kernel))
set_option maxRecDepth 20000 in
theorem gL_bit_X9_bit : GoodIn wsL_bit (wsV RL 30 RX9 yX9_bit wsX9_bit) := goodIn_app (goodIn_of _ (by decide +kernel)) ggL_bit_X9_bit
theorem dL_bit_0 : decode cL_bit 0 = .ok (.aload_n 2, 1) := by decide +kernel
theorem dL_bit_1 : decode cL_bit 1 = .ok (.iconst 0, 1) := by decide +kernel
theorem dL_bit_2 : decode cL_bit 2 = .ok (.aload_n 0, 1) := by decide +kernel
theorem dL_bit_3 : decode cL_bit 3 = .ok (.iload_n 1, 1) := by decide +kernel
theorem dL_bit_4 : decode cL_bit 4 = .ok (.invokevirtual 30, 3) := by decide +kernel
theorem dL_bit_7 : decode cL_bit 7 = .ok (.i2l, 1) := by decide +kernel
theorem dL_bit_8 : decode cL_bit 8 = .ok (.lastore, 1) := by decide +kernel
theorem dL_bit_9 : decode cL_bit 9 = .ok (.goto 6, 3) := by decide +kernel
theorem dL_bit_12 : decode cL_bit 12 = .ok (.astore_n 3, 1) := by decide +kernel
theorem dL_bit_13 : decode cL_bit 13 = .ok (.iconst 1, 1) := by decide +kernel
theorem dL_bit_14 : decode cL_bit 14 = .ok (.ireturn, 1) := by decide +kernel
theorem dL_bit_15 : decode cL_bit 15 = .ok (.iconst 0, 1) := by decide +kernel
theorem dL_bit_16 : decode cL_bit 16 = .ok (.ireturn, 1) := by decide +kernel
set_option maxRecDepth 20000 in
theorem ggL_flip_X9_flip : GoodIn wsL_flip wsX9_flip := goodIn_ca (goodIn_r _ [6, 7, 8, 9, 10, 11, 12, 13, 14, 15, 16, 17, 18, 19, 20, 21, 22, 23, 24, 25, 26, 27, 28, 29, 30, 31, 32, 33, 34, 35] (by decide +kernel) (by decide +kernel)) (goodIn_sub (fun _ h => List.mem_cons_of_mem _ (List.mem_append_right _ h)) (by decide +kernel))
set_option maxRecDepth 20000 in
theorem gL_flip_X9_flip : GoodIn wsL_flip (wsV RL 33 RX9 yX9_flip wsX9_flip) := goodIn_app (goodIn_of _ (by decide +kernel)) ggL_flip_X9_flip
theorem dL_flip_0 : decode cL_flip 0 = .ok (.aload_n 2, 1) := by decide +kernel
theorem dL_flip_1 : decode cL_flip 1 = .ok (.iconst 0, 1) := by decide +kernel
theorem dL_flip_2 : decode cL_flip 2 = .ok (.aload_n 0, 1) := by decide +kernel
theorem dL_flip_3 : decode cL_flip 3 = .ok (.iload_n 1, 1) := by decide +kernel
theorem dL_flip_4 : decode cL_flip 4 = .ok (.invokevirtual 33, 3) := by decide +kernel
theorem dL_flip_7 : decode cL_flip 7 = .ok (.i2l, 1) := by decide +kernel
theorem dL_flip_8 : decode cL_flip 8 = .ok (.lastore, 1) := by decide +kernel
theorem dL_flip_9 : decode cL_flip 9 = .ok (.goto 6, 3) := by decide +kernel
theorem dL_flip_12 : decode cL_flip 12 = .ok (.astore_n 3, 1) := by decide +kernel
theorem dL_flip_13 : decode cL_flip 13 = .ok (.iconst 1, 1) := by decide +kernel
theorem dL_flip_14 : decode cL_flip 14 = .ok (.ireturn, 1) := by decide +kernel
theorem dL_flip_15 : decode cL_flip 15 = .ok (.iconst 0, 1) := by decide +kernel
theorem dL_flip_16 : decode cL_flip 16 = .ok (.ireturn, 1) := by decide +kernel
set_option maxRecDepth 20000 in
theorem ggL_cut_X9_cut : GoodIn wsL_cut wsX9_cut := goodIn_ca (goodIn_ca (goodIn_r _ [7, 8, 9, 10, 11, 12, 13, 14, 15, 16, 17, 18, 19, 20, 21, 22, 23, 24, 25, 26, 27, 28, 29, 30, 31, 32, 33, 34, 35, 36, 37, 38, 39, 40, 41, 42, 43] (by decide +kernel) (by decide +kernel)) (goodIn_sub (fun _ h => List.mem_cons_of_mem _ (List.mem_append_left _ (List.mem_append_right _ h))) (by decide +kernel))) (goodIn_sub (fun _ h => List.mem_cons_of_mem _ (List.mem_append_right _ h)) (by decide +kernel))
set_option maxRecDepth 20000 in
theorem gL_cut_X9_cut : GoodIn wsL_cut (wsV RL 36 RX9 yX9_cut wsX9_cut) := goodIn_app (goodIn_of _ (by decide +kernel)) ggL_cut_X9_cut
theorem dL_cut_0 : decode cL_cut 0 = .ok (.aload_n 3, 1) := by decide +kernel
theorem dL_cut_1 : decode cL_cut 1 = .ok (.iconst 0, 1) := by decide +kernel
theorem dL_cut_2 : decode cL_cut 2 = .ok (.aload_n 0, 1) := by decide +kernel
theorem dL_cut_3 : decode cL_cut 3 = .ok (.iload_n 1, 1) := by decide +kernel
theorem dL_cut_4 : decode cL_cut 4 = .ok (.iload_n 2, 1) := by decide +kernel
theorem dL_cut_5 : decode cL_cut 5 = .ok (.invokevirtual 36, 3) := by decide +kernel
theorem dL_cut_8 : decode cL_cut 8 = .ok (.i2l, 1) := by decide +kernel
theorem dL_cut_9 : decode cL_cut 9 = .ok (.lastore, 1) := by decide +kernel
theorem dL_cut_10 : decode cL_cut 10 = .ok (.goto 11, 3) := by decide +kernel
theorem dL_cut_13 : decode cL_cut 13 = .ok (.astore 4, 2) := by decide +kernel
theorem dL_cut_15 : decode cL_cut 15 = .ok (.iconst 1, 1) := by decide +kernel
theorem dL_cut_16 : decode cL_cut 16 = .ok (.ireturn, 1) := by decide +kernel
theorem dL_cut_17 : decode cL_cut 17 = .ok (.astore 4, 2) := by decide +kernel
theorem dL_cut_19 : decode cL_cut 19 = .ok (.iconst 2, 1) := by decide +kernel
theorem dL_cut_20 : decode cL_cut 20 = .ok (.ireturn, 1) := by decide +kernel
theorem dL_cut_21 : decode cL_cut 21 = .ok (.iconst 0, 1) := by decide +kernel
theorem dL_cut_22 : decode cL_cut 22 = .ok (.ireturn, 1) := by decide +kernel
set_option maxRecDepth 20000 in
theorem ggL_receive_X9_receive : GoodIn wsL_receive wsX9_receive := goodIn_ca (goodIn_r _ [6, 7, 8, 9, 10, 11, 12, 13, 14, 15, 16, 17, 18, 19, 20, 21, 22, 23, 24, 25, 26, 27, 28, 29, 30, 31, 32, 33, 34, 35, 36, 37, 38, 39, 40, 41, 42, 43, 44, 45, 46, 47, 48, 49, 50, 51, 52, 53, 54, 55, 56, 57, 58, 59, 60, 61, 62, 63, 64, 65, 66, 67, 68, 69, 70, 71, 72, 73, 74, 75, 76, 77, 78, 79, 80, 81, 82, 83, 84, 85, 86, 87, 88, 89, 90, 91, 92, 93, 94, 95, 96, 97, 98, 99, 100, 101, 102, 103, 104, 105, 106, 107, 108, 109, 110, 111, 112, 113, 114, 115, 116, 117, 118, 119, 120, 121, 122, 123, 124, 125, 126, 127, 128, 129, 130, 131, 132, 133, 134, 135, 136, 137, 138, 139, 140, 141, 142, 143, 144, 145, 146, 147, 148, 149, 150, 151, 152, 153, 154, 155, 156, 157, 158, 159, 160, 161, 162, 163, 164, 165, 166, 167, 168, 169, 170, 171, 172, 173, 174, 175, 176, 177, 178, 179, 180, 181, 182, 183, 184, 185, 186, 187, 188] (by decide +kernel) (by decide +kernel)) (goodIn_sub (fun _ h => List.mem_cons_of_mem _ (List.mem_append_right _ h)) (by decide +kernel))
set_option maxRecDepth 20000 in
theorem gL_receive_X9_receive : GoodIn wsL_receive (wsV RL 39 RX9 yX9_receive wsX9_receive) := goodIn_app (goodIn_of _ (by decide +kernel)) ggL_receive_X9_receive
theorem dL_receive_0 : decode cL_receive 0 = .ok (.aload_n 2, 1) := by decide +kernel
theorem dL_receive_1 : decode cL_receive 1 = .ok (.iconst 0, 1) := by decide +kernel
theorem dL_receive_2 : decode cL_receive 2 = .ok (.aload_n 0, 1) := by decide +kernel
theorem dL_receive_3 : decode cL_receive 3 = .ok (.iload_n 1, 1) := by decide +kernel
theorem dL_receive_4 : decode cL_receive 4 = .ok (.invokevirtual 39, 3) := by decide +kernel
theorem dL_receive_7 : decode cL_receive 7 = .ok (.i2l, 1) := by decide +kernel
theorem dL_receive_8 : decode cL_receive 8 = .ok (.lastore, 1) := by decide +kernel
theorem dL_receive_9 : decode cL_receive 9 = .ok (.goto 6, 3) := by decide +kernel
theorem dL_receive_12 : decode cL_receive 12 = .ok (.astore_n 3, 1) := by decide +kernel
theorem dL_receive_13 : decode cL_receive 13 = .ok (.iconst 1, 1) := by decide +kernel
theorem dL_receive_14 : decode cL_receive 14 = .ok (.ireturn, 1) := by decide +kernel
theorem dL_receive_15 : decode cL_receive 15 = .ok (.iconst 0, 1) := by decide +kernel
theorem dL_receive_16 : decode cL_receive 16 = .ok (.ireturn, 1) := by decide +kernel
set_option maxRecDepth 20000 in
theorem ggL_number_X9_number : GoodIn wsL_number wsX9_number := goodIn_ca (goodIn_r _ [6, 7, 8, 9, 10, 11, 12, 13, 14, 15, 16, 17, 18, 19, 20] (by decide +kernel) (by decide +kernel)) (goodIn_sub (fun _ h => List.mem_cons_of_mem _ (List.mem_append_right _ h)) (by decide +kernel))
set_option maxRecDepth 20000 in
theorem gL_number_X9_number : GoodIn wsL_number (wsV RL 42 RX9 yX9_number wsX9_number) := goodIn_app (goodIn_of _ (by decide +kernel)) ggL_number_X9_number
theorem dL_number_0 : decode cL_number 0 = .ok (.aload_n 1, 1) := by decide +kernel
theorem dL_number_1 : decode cL_number 1 = .ok (.iconst 0, 1) := by decide +kernel
theorem dL_number_2 : decode cL_number 2 = .ok (.aload_n 0, 1) := by decide +kernel
theorem dL_number_3 : decode cL_number 3 = .ok (.invokevirtual 42, 3) := by decide +kernel
theorem dL_number_6 : decode cL_number 6 = .ok (.i2l, 1) := by decide +kernel
theorem dL_number_7 : decode cL_number 7 = .ok (.lastore, 1) := by decide +kernel
theorem dL_number_8 : decode cL_number 8 = .ok (.goto 6, 3) := by decide +kernel
theorem dL_number_11 : decode cL_number 11 = .ok (.astore_n 2, 1) := by decide +kernel
theorem dL_number_12 : decode cL_number 12 = .ok (.iconst 1, 1) := by decide +kernel
theorem dL_number_13 : decode cL_number 13 = .ok (.ireturn, 1) := by decide +kernel
theorem dL_number_14 : decode cL_number 14 = .ok (.iconst 0, 1) := by decide +kernel
theorem dL_number_15 : decode cL_number 15 = .ok (.ireturn, 1) := by decide +kernel
set_option maxRecDepth 20000 in
theorem ggL_value_X9_value : GoodIn wsL_value wsX9_value := goodIn_ca (goodIn_ca (goodIn_r _ [7, 8, 9, 10, 6, 11, 12, 13, 14, 15, 16, 17, 18, 19, 20, 21, 22, 23, 24, 25, 26, 27, 28, 29, 30, 31, 32, 33, 34, 35, 36, 37, 38, 39, 40, 41, 42, 43, 44, 45, 46, 47, 48] (by decide +kernel) (by decide +kernel)) (goodIn_sub (fun _ h => List.mem_cons_of_mem _ (List.mem_append_left _ (List.mem_append_right _ h))) (by decide +kernel))) (goodIn_sub (fun _ h => List.mem_cons_of_mem _ (List.mem_append_right _ h)) (by decide +kernel))
set_option maxRecDepth 20000 in
theorem gL_value_X9_value : GoodIn wsL_value (wsV RL 48 RX9 yX9_value wsX9_value) := goodIn_app (goodIn_of _ (by decide +kernel)) ggL_value_X9_value
theorem dL_value_0 : decode cL_value 0 = .ok (.aload_n 2, 1) := by decide +kernel
theorem dL_value_1 : decode cL_value 1 = .ok (.iconst 0, 1) := by decide +kernel
theorem dL_value_2 : decode cL_value 2 = .ok (.aload_n 0, 1) := by decide +kernel
theorem dL_value_3 : decode cL_value 3 = .ok (.iload_n 1, 1) := by decide +kernel
theorem dL_value_4 : decode cL_value 4 = .ok (.invokevirtual 48, 3) := by decide +kernel
theorem dL_value_7 : decode cL_value 7 = .ok (.i2l, 1) := by decide +kernel
theorem dL_value_8 : decode cL_value 8 = .ok (.lastore, 1) := by decide +kernel
theorem dL_value_9 : decode cL_value 9 = .ok (.goto 9, 3) := by decide +kernel
theorem dL_value_12 : decode cL_value 12 = .ok (.astore_n 3, 1) := by decide +kernel
theorem dL_value_13 : decode cL_value 13 = .ok (.iconst 1, 1) := by decide +kernel
theorem dL_value_14 : decode cL_value 14 = .ok (.ireturn, 1) := by decide +kernel
theorem dL_value_15 : decode cL_value 15 = .ok (.astore_n 3, 1) := by decide +kernel
theorem dL_value_16 : decode cL_value 16 = .ok (.iconst 2, 1) := by decide +kernel
theorem dL_value_17 : decode cL_value 17 = .ok (.ireturn, 1) := by decide +kernel
theorem dL_value_18 : decode cL_value 18 = .ok (.iconst 0, 1) := by decide +kernel
theorem dL_value_19 : decode cL_value 19 = .ok (.ireturn, 1) := by decide +kernel
set_option maxRecDepth 20000 in
theorem ggL_time_X9_time : GoodIn wsL_time wsX9_time := goodIn_ca (goodIn_ca (goodIn_r _ [7, 8, 9, 10, 6, 11, 12, 13, 14, 15, 16, 17, 18, 19, 20, 21, 22, 23, 24, 25, 26, 27, 28, 29, 30, 31, 32, 33, 34, 35, 36, 37, 38, 39, 40, 41, 42, 43, 44, 45, 46, 47, 48] (by decide +kernel) (by decide +kernel)) (goodIn_sub (fun _ h => List.mem_cons_of_mem _ (List.mem_append_left _ (List.mem_append_right _ h))) (by decide +kernel))) (goodIn_sub (fun _ h => List.mem_cons_of_mem _ (List.mem_append_right _ h)) (by decide +kernel))
set_option maxRecDepth 20000 in
theorem gL_time_X9_time : GoodIn wsL_time (wsV RL 51 RX9 yX9_time wsX9_time) := goodIn_app (goodIn_of _ (by decide +kernel)) ggL_time_X9_time
theorem dL_time_0 : decode cL_time 0 = .ok (.aload_n 2, 1) := by decide +kernel
theorem dL_time_1 : decode cL_time 1 = .ok (.iconst 0, 1) := by decide +kernel
theorem dL_time_2 : decode cL_time 2 = .ok (.aload_n 0, 1) := by decide +kernel
theorem dL_time_3 : decode cL_time 3 = .ok (.iload_n 1, 1) := by decide +kernel
theorem dL_time_4 : decode cL_time 4 = .ok (.invokevirtual 51, 3) := by decide +kernel
theorem dL_time_7 : decode cL_time 7 = .ok (.i2l, 1) := by decide +kernel
theorem dL_time_8 : decode cL_time 8 = .ok (.lastore, 1) := by decide +kernel
theorem dL_time_9 : decode cL_time 9 = .ok (.goto 9, 3) := by decide +kernel
theorem dL_time_12 : decode cL_time 12 = .ok (.astore_n 3, 1) := by decide +kernel
theorem dL_time_13 : decode cL_time 13 = .ok (.iconst 1, 1) := by decide +kernel
theorem dL_time_14 : decode cL_time 14 = .ok (.ireturn, 1) := by decide +kernel
theorem dL_time_15 : decode cL_time 15 = .ok (.astore_n 3, 1) := by decide +kernel
theorem dL_time_16 : decode cL_time 16 = .ok (.iconst 2, 1) := by decide +kernel
theorem dL_time_17 : decode cL_time 17 = .ok (.ireturn, 1) := by decide +kernel
theorem dL_time_18 : decode cL_time 18 = .ok (.iconst 0, 1) := by decide +kernel
theorem dL_time_19 : decode cL_time 19 = .ok (.ireturn, 1) := by decide +kernel
set_option maxRecDepth 20000 in
theorem ggL_samples_X9_samples : GoodIn wsL_samples wsX9_samples := goodIn_ca (goodIn_r _ [6, 7, 8, 9, 5, 10, 11, 12, 13, 14, 15, 16, 17, 18, 19, 20, 21, 22, 23, 24, 25, 26, 27, 28, 29, 30, 31, 32, 33, 34, 35, 36, 37, 38, 39] (by decide +kernel) (by decide +kernel)) (goodIn_sub (fun _ h => List.mem_cons_of_mem _ (List.mem_append_right _ h)) (by decide +kernel))
set_option maxRecDepth 20000 in
theorem gL_samples_X9_samples : GoodIn wsL_samples (wsV RL 54 RX9 yX9_samples wsX9_samples) := goodIn_app (goodIn_of _ (by decide +kernel)) ggL_samples_X9_samples
theorem dL_samples_0 : decode cL_samples 0 = .ok (.aload_n 2, 1) := by decide +kernel
theorem dL_samples_1 : decode cL_samples 1 = .ok (.iconst 0, 1) := by decide +kernel
theorem dL_samples_2 : decode cL_samples 2 = .ok (.aload_n 0, 1) := by decide +kernel
theorem dL_samples_3 : decode cL_samples 3 = .ok (.iload_n 1, 1) := by decide +kernel
theorem dL_samples_4 : decode cL_samples 4 = .ok (.invokevirtual 54, 3) := by decide +kernel
theorem dL_samples_7 : decode cL_samples 7 = .ok (.i2l, 1) := by decide +kernel
theorem dL_samples_8 : decode cL_samples 8 = .ok (.lastore, 1) := by decide +kernel
theorem dL_samples_9 : decode cL_samples 9 = .ok (.goto 6, 3) := by decide +kernel
theorem dL_samples_12 : decode cL_samples 12 = .ok (.astore_n 3, 1) := by decide +kernel
theorem dL_samples_13 : decode cL_samples 13 = .ok (.iconst 1, 1) := by decide +kernel
theorem dL_samples_14 : decode cL_samples 14 = .ok (.ireturn, 1) := by decide +kernel
theorem dL_samples_15 : decode cL_samples 15 = .ok (.iconst 0, 1) := by decide +kernel
theorem dL_samples_16 : decode cL_samples 16 = .ok (.ireturn, 1) := by decide +kernel
set_option maxRecDepth 20000 in
theorem ggL_missing_X9_missing : GoodIn wsL_missing wsX9_missing := goodIn_ca (goodIn_r _ [6, 7, 8, 9, 5, 10, 11, 12, 13, 14, 15, 16, 17, 18, 19, 20, 21, 22, 23, 24, 25, 26, 27, 28, 29, 30, 31, 32, 33, 34, 35, 36, 37, 38, 39] (by decide +kernel) (by decide +kernel)) (goodIn_sub (fun _ h => List.mem_cons_of_mem _ (List.mem_append_right _ h)) (by decide +kernel))
set_option maxRecDepth 20000 in
theorem gL_missing_X9_missing : GoodIn wsL_missing (wsV RL 57 RX9 yX9_missing wsX9_missing) := goodIn_app (goodIn_of _ (by decide +kernel)) ggL_missing_X9_missing
theorem dL_missing_0 : decode cL_missing 0 = .ok (.aload_n 2, 1) := by decide +kernel
theorem dL_missing_1 : decode cL_missing 1 = .ok (.iconst 0, 1) := by decide +kernel
theorem dL_missing_2 : decode cL_missing 2 = .ok (.aload_n 0, 1) := by decide +kernel
theorem dL_missing_3 : decode cL_missing 3 = .ok (.iload_n 1, 1) := by decide +kernel
theorem dL_missing_4 : decode cL_missing 4 = .ok (.invokevirtual 57, 3) := by decide +kernel
theorem dL_missing_7 : decode cL_missing 7 = .ok (.i2l, 1) := by decide +kernel
theorem dL_missing_8 : decode cL_missing 8 = .ok (.lastore, 1) := by decide +kernel
theorem dL_missing_9 : decode cL_missing 9 = .ok (.goto 6, 3) := by decide +kernel
theorem dL_missing_12 : decode cL_missing 12 = .ok (.astore_n 3, 1) := by decide +kernel
theorem dL_missing_13 : decode cL_missing 13 = .ok (.iconst 1, 1) := by decide +kernel
theorem dL_missing_14 : decode cL_missing 14 = .ok (.ireturn, 1) := by decide +kernel
theorem dL_missing_15 : decode cL_missing 15 = .ok (.iconst 0, 1) := by decide +kernel
theorem dL_missing_16 : decode cL_missing 16 = .ok (.ireturn, 1) := by decide +kernel
set_option maxRecDepth 20000 in
theorem ggL_derive_X9_derive : GoodIn wsL_derive wsX9_derive := goodIn_ca (goodIn_ca (goodIn_r _ [7, 8, 9, 10, 11, 12, 13, 14, 6, 15, 16, 17, 18, 19, 20, 21, 22, 23, 24, 25, 26, 27, 28, 29, 30, 31, 32, 33, 34, 35, 36, 37, 38, 39, 40, 41, 42, 43, 44, 45, 46, 47, 48, 49, 50, 51] (by decide +kernel) (by decide +kernel)) (goodIn_sub (fun _ h => List.mem_cons_of_mem _ (List.mem_append_left _ (List.mem_append_right _ h))) (by decide +kernel))) (goodIn_sub (fun _ h => List.mem_cons_of_mem _ (List.mem_append_right _ h)) (by decide +kernel))
set_option maxRecDepth 20000 in
theorem gL_derive_X9_derive : GoodIn wsL_derive (wsV RL 60 RX9 yX9_derive wsX9_derive) := goodIn_app (goodIn_of _ (by decide +kernel)) ggL_derive_X9_derive
theorem dL_derive_0 : decode cL_derive 0 = .ok (.aload_n 0, 1) := by decide +kernel
theorem dL_derive_1 : decode cL_derive 1 = .ok (.iload_n 1, 1) := by decide +kernel
theorem dL_derive_2 : decode cL_derive 2 = .ok (.iload_n 2, 1) := by decide +kernel
theorem dL_derive_3 : decode cL_derive 3 = .ok (.iload_n 3, 1) := by decide +kernel
theorem dL_derive_4 : decode cL_derive 4 = .ok (.iload 4, 2) := by decide +kernel
theorem dL_derive_6 : decode cL_derive 6 = .ok (.invokevirtual 60, 3) := by decide +kernel
theorem dL_derive_9 : decode cL_derive 9 = .ok (.goto 11, 3) := by decide +kernel
theorem dL_derive_12 : decode cL_derive 12 = .ok (.astore 5, 2) := by decide +kernel
theorem dL_derive_14 : decode cL_derive 14 = .ok (.iconst 1, 1) := by decide +kernel
theorem dL_derive_15 : decode cL_derive 15 = .ok (.ireturn, 1) := by decide +kernel
theorem dL_derive_16 : decode cL_derive 16 = .ok (.astore 5, 2) := by decide +kernel
theorem dL_derive_18 : decode cL_derive 18 = .ok (.iconst 2, 1) := by decide +kernel
theorem dL_derive_19 : decode cL_derive 19 = .ok (.ireturn, 1) := by decide +kernel
theorem dL_derive_20 : decode cL_derive 20 = .ok (.iconst 0, 1) := by decide +kernel
theorem dL_derive_21 : decode cL_derive 21 = .ok (.ireturn, 1) := by decide +kernel
set_option maxRecDepth 20000 in
theorem ggL_derivedValue_X9_derivedValue : GoodIn wsL_derivedValue wsX9_derivedValue := goodIn_ca (goodIn_ca (goodIn_r _ [7, 8, 9, 10, 6, 11, 12, 13, 14, 15, 16, 17, 18, 19, 20, 21, 22, 23, 24, 25, 26, 27, 28, 29, 30, 31, 32, 33, 34, 35, 36, 37, 38, 39, 40, 41, 42, 43, 44, 45, 46, 47, 48, 49, 50, 51, 52, 53, 54, 55, 56, 57, 58, 59, 60, 61, 62, 63, 64, 65, 66, 67, 68, 69, 70, 71, 72, 73, 74, 75, 76, 77, 78, 79, 80, 81, 82, 83, 84, 85, 86, 87, 88, 89, 90, 91, 92, 93, 94, 95, 96, 97, 98, 99, 100, 101, 102, 103, 104, 105, 106, 107, 108] (by decide +kernel) (by decide +kernel)) (goodIn_sub (fun _ h => List.mem_cons_of_mem _ (List.mem_append_left _ (List.mem_append_right _ h))) (by decide +kernel))) (goodIn_sub (fun _ h => List.mem_cons_of_mem _ (List.mem_append_right _ h)) (by decide +kernel))
set_option maxRecDepth 20000 in
theorem gL_derivedValue_X9_derivedValue : GoodIn wsL_derivedValue (wsV RL 64 RX9 yX9_derivedValue wsX9_derivedValue) := goodIn_app (goodIn_of _ (by decide +kernel)) ggL_derivedValue_X9_derivedValue
theorem dL_derivedValue_0 : decode cL_derivedValue 0 = .ok (.aload_n 2, 1) := by decide +kernel
theorem dL_derivedValue_1 : decode cL_derivedValue 1 = .ok (.iconst 0, 1) := by decide +kernel
theorem dL_derivedValue_2 : decode cL_derivedValue 2 = .ok (.aload_n 0, 1) := by decide +kernel
theorem dL_derivedValue_3 : decode cL_derivedValue 3 = .ok (.iload_n 1, 1) := by decide +kernel
theorem dL_derivedValue_4 : decode cL_derivedValue 4 = .ok (.invokevirtual 64, 3) := by decide +kernel
theorem dL_derivedValue_7 : decode cL_derivedValue 7 = .ok (.i2l, 1) := by decide +kernel
theorem dL_derivedValue_8 : decode cL_derivedValue 8 = .ok (.lastore, 1) := by decide +kernel
theorem dL_derivedValue_9 : decode cL_derivedValue 9 = .ok (.goto 9, 3) := by decide +kernel
theorem dL_derivedValue_12 : decode cL_derivedValue 12 = .ok (.astore_n 3, 1) := by decide +kernel
theorem dL_derivedValue_13 : decode cL_derivedValue 13 = .ok (.iconst 1, 1) := by decide +kernel
theorem dL_derivedValue_14 : decode cL_derivedValue 14 = .ok (.ireturn, 1) := by decide +kernel
theorem dL_derivedValue_15 : decode cL_derivedValue 15 = .ok (.astore_n 3, 1) := by decide +kernel
theorem dL_derivedValue_16 : decode cL_derivedValue 16 = .ok (.iconst 2, 1) := by decide +kernel
theorem dL_derivedValue_17 : decode cL_derivedValue 17 = .ok (.ireturn, 1) := by decide +kernel
theorem dL_derivedValue_18 : decode cL_derivedValue 18 = .ok (.iconst 0, 1) := by decide +kernel
theorem dL_derivedValue_19 : decode cL_derivedValue 19 = .ok (.ireturn, 1) := by decide +kernel
set_option maxRecDepth 20000 in
theorem ggL_derivedTime_X9_derivedTime : GoodIn wsL_derivedTime wsX9_derivedTime := goodIn_ca (goodIn_ca (goodIn_r _ [7, 8, 9, 10, 6, 11, 12, 13, 14, 15, 16, 17, 18, 19, 20, 21, 22, 23, 24, 25, 26, 27, 28, 29, 30, 31, 32, 33, 34, 35, 36, 37, 38, 39, 40, 41, 42, 43, 44, 45, 46, 47, 48, 49, 50, 51, 52, 53, 54, 55, 56, 57, 58, 59, 60, 61, 62, 63, 64, 65, 66, 67, 68, 69, 70, 71, 72, 73, 74, 75, 76, 77, 78, 79, 80, 81, 82, 83, 84, 85, 86, 87, 88, 89, 90, 91, 92, 93, 94, 95, 96, 97, 98, 99, 100, 101, 102, 103, 104, 105, 106, 107, 108] (by decide +kernel) (by decide +kernel)) (goodIn_sub (fun _ h => List.mem_cons_of_mem _ (List.mem_append_left _ (List.mem_append_right _ h))) (by decide +kernel))) (goodIn_sub (fun _ h => List.mem_cons_of_mem _ (List.mem_append_right _ h)) (by decide +kernel))
set_option maxRecDepth 20000 in
theorem gL_derivedTime_X9_derivedTime : GoodIn wsL_derivedTime (wsV RL 67 RX9 yX9_derivedTime wsX9_derivedTime) := goodIn_app (goodIn_of _ (by decide +kernel)) ggL_derivedTime_X9_derivedTime
theorem dL_derivedTime_0 : decode cL_derivedTime 0 = .ok (.aload_n 2, 1) := by decide +kernel
theorem dL_derivedTime_1 : decode cL_derivedTime 1 = .ok (.iconst 0, 1) := by decide +kernel
theorem dL_derivedTime_2 : decode cL_derivedTime 2 = .ok (.aload_n 0, 1) := by decide +kernel
theorem dL_derivedTime_3 : decode cL_derivedTime 3 = .ok (.iload_n 1, 1) := by decide +kernel
theorem dL_derivedTime_4 : decode cL_derivedTime 4 = .ok (.invokevirtual 67, 3) := by decide +kernel
theorem dL_derivedTime_7 : decode cL_derivedTime 7 = .ok (.i2l, 1) := by decide +kernel
theorem dL_derivedTime_8 : decode cL_derivedTime 8 = .ok (.lastore, 1) := by decide +kernel
theorem dL_derivedTime_9 : decode cL_derivedTime 9 = .ok (.goto 9, 3) := by decide +kernel
theorem dL_derivedTime_12 : decode cL_derivedTime 12 = .ok (.astore_n 3, 1) := by decide +kernel
theorem dL_derivedTime_13 : decode cL_derivedTime 13 = .ok (.iconst 1, 1) := by decide +kernel
theorem dL_derivedTime_14 : decode cL_derivedTime 14 = .ok (.ireturn, 1) := by decide +kernel
theorem dL_derivedTime_15 : decode cL_derivedTime 15 = .ok (.astore_n 3, 1) := by decide +kernel
theorem dL_derivedTime_16 : decode cL_derivedTime 16 = .ok (.iconst 2, 1) := by decide +kernel
theorem dL_derivedTime_17 : decode cL_derivedTime 17 = .ok (.ireturn, 1) := by decide +kernel
theorem dL_derivedTime_18 : decode cL_derivedTime 18 = .ok (.iconst 0, 1) := by decide +kernel
theorem dL_derivedTime_19 : decode cL_derivedTime 19 = .ok (.ireturn, 1) := by decide +kernel
set_option maxRecDepth 20000 in
theorem ggL_matches_X9_matches : GoodIn wsL_matches wsX9_matches := goodIn_ca (goodIn_r _ [6, 7, 8, 9, 10, 11, 12, 13, 14, 15, 16, 17, 18, 19, 20, 21, 22, 23, 24, 25, 26, 27, 28] (by decide +kernel) (by decide +kernel)) (goodIn_sub (fun _ h => List.mem_cons_of_mem _ (List.mem_append_right _ h)) (by decide +kernel))
set_option maxRecDepth 20000 in
theorem gL_matches_X9_matches : GoodIn wsL_matches (wsV RL 70 RX9 yX9_matches wsX9_matches) := goodIn_app (goodIn_of _ (by decide +kernel)) ggL_matches_X9_matches
theorem dL_matches_0 : decode cL_matches 0 = .ok (.aload_n 2, 1) := by decide +kernel
theorem dL_matches_1 : decode cL_matches 1 = .ok (.iconst 0, 1) := by decide +kernel
theorem dL_matches_2 : decode cL_matches 2 = .ok (.aload_n 0, 1) := by decide +kernel
theorem dL_matches_3 : decode cL_matches 3 = .ok (.iload_n 1, 1) := by decide +kernel
theorem dL_matches_4 : decode cL_matches 4 = .ok (.invokevirtual 70, 3) := by decide +kernel
theorem dL_matches_7 : decode cL_matches 7 = .ok (.i2l, 1) := by decide +kernel
theorem dL_matches_8 : decode cL_matches 8 = .ok (.lastore, 1) := by decide +kernel
theorem dL_matches_9 : decode cL_matches 9 = .ok (.goto 6, 3) := by decide +kernel
theorem dL_matches_12 : decode cL_matches 12 = .ok (.astore_n 3, 1) := by decide +kernel
theorem dL_matches_13 : decode cL_matches 13 = .ok (.iconst 1, 1) := by decide +kernel
theorem dL_matches_14 : decode cL_matches 14 = .ok (.ireturn, 1) := by decide +kernel
theorem dL_matches_15 : decode cL_matches 15 = .ok (.iconst 0, 1) := by decide +kernel
theorem dL_matches_16 : decode cL_matches 16 = .ok (.ireturn, 1) := by decide +kernel
end
section
theorem dL_law_0 : decode cL_law 0 = .ok (.new 8, 3) := by decide +kernel
theorem dL_law_3 : decode cL_law 3 = .ok (.dup, 1) := by decide +kernel
theorem dL_law_4 : decode cL_law 4 = .ok (.invokespecial 73, 3) := by decide +kernel
theorem dL_law_7 : decode cL_law 7 = .ok (.astore_n 1, 1) := by decide +kernel
theorem dL_law_8 : decode cL_law 8 = .ok (.new 74, 3) := by decide +kernel
theorem dL_law_11 : decode cL_law 11 = .ok (.dup, 1) := by decide +kernel
theorem dL_law_12 : decode cL_law 12 = .ok (.invokespecial 76, 3) := by decide +kernel
theorem dL_law_15 : decode cL_law 15 = .ok (.astore_n 2, 1) := by decide +kernel
theorem dL_law_16 : decode cL_law 16 = .ok (.iconst 1, 1) := by decide +kernel
theorem dL_law_17 : decode cL_law 17 = .ok (.newarray .long, 2) := by decide +kernel
theorem dL_law_19 : decode cL_law 19 = .ok (.astore_n 3, 1) := by decide +kernel
theorem dL_law_20 : decode cL_law 20 = .ok (.iconst 0, 1) := by decide +kernel
theorem dL_law_21 : decode cL_law 21 = .ok (.istore 4, 2) := by decide +kernel
theorem dL_law_23 : decode cL_law 23 = .ok (.iload 4, 2) := by decide +kernel
theorem dL_law_25 : decode cL_law 25 = .ok (.aload_n 0, 1) := by decide +kernel
theorem dL_law_26 : decode cL_law 26 = .ok (.arraylength, 1) := by decide +kernel
theorem dL_law_27 : decode cL_law 27 = .ok (.iconst 5, 1) := by decide +kernel
theorem dL_law_28 : decode cL_law 28 = .ok (.isub, 1) := by decide +kernel
theorem dL_law_29 : decode cL_law 29 = .ok (.if_icmp .gt 1299, 3) := by decide +kernel
theorem dL_law_32 : decode cL_law 32 = .ok (.aload_n 0, 1) := by decide +kernel
theorem dL_law_33 : decode cL_law 33 = .ok (.iload 4, 2) := by decide +kernel
theorem dL_law_35 : decode cL_law 35 = .ok (.iaload, 1) := by decide +kernel
theorem dL_law_36 : decode cL_law 36 = .ok (.bipush 31, 2) := by decide +kernel
theorem dL_law_38 : decode cL_law 38 = .ok (.iand, 1) := by decide +kernel
theorem dL_law_39 : decode cL_law 39 = .ok (.tableswitch 1283 0 26 #[121, 229, 242, 298, 311, 379, 435, 448, 461, 517, 573, 641, 697, 710, 723, 736, 749, 762, 806, 862, 918, 974, 1030, 1102, 1158, 1214, 1270], 121) := by decide +kernel
theorem dL_law_160 : decode cL_law 160 = .ok (.aload_n 1, 1) := by decide +kernel
theorem dL_law_161 : decode cL_law 161 = .ok (.aload_n 0, 1) := by decide +kernel
theorem dL_law_162 : decode cL_law 162 = .ok (.iload 4, 2) := by decide +kernel
theorem dL_law_164 : decode cL_law 164 = .ok (.iconst 1, 1) := by decide +kernel
theorem dL_law_165 : decode cL_law 165 = .ok (.iadd, 1) := by decide +kernel
theorem dL_law_166 : decode cL_law 166 = .ok (.iaload, 1) := by decide +kernel
theorem dL_law_167 : decode cL_law 167 = .ok (.aload_n 0, 1) := by decide +kernel
theorem dL_law_168 : decode cL_law 168 = .ok (.iload 4, 2) := by decide +kernel
theorem dL_law_170 : decode cL_law 170 = .ok (.iconst 2, 1) := by decide +kernel
theorem dL_law_171 : decode cL_law 171 = .ok (.iadd, 1) := by decide +kernel
theorem dL_law_172 : decode cL_law 172 = .ok (.iaload, 1) := by decide +kernel
theorem dL_law_173 : decode cL_law 173 = .ok (.aload_n 0, 1) := by decide +kernel
theorem dL_law_174 : decode cL_law 174 = .ok (.iload 4, 2) := by decide +kernel
theorem dL_law_176 : decode cL_law 176 = .ok (.iconst 3, 1) := by decide +kernel
theorem dL_law_177 : decode cL_law 177 = .ok (.iadd, 1) := by decide +kernel
theorem dL_law_178 : decode cL_law 178 = .ok (.iaload, 1) := by decide +kernel
theorem dL_law_179 : decode cL_law 179 = .ok (.aload_n 0, 1) := by decide +kernel
theorem dL_law_180 : decode cL_law 180 = .ok (.iload 4, 2) := by decide +kernel
theorem dL_law_182 : decode cL_law 182 = .ok (.iconst 4, 1) := by decide +kernel
theorem dL_law_183 : decode cL_law 183 = .ok (.iadd, 1) := by decide +kernel
theorem dL_law_184 : decode cL_law 184 = .ok (.iaload, 1) := by decide +kernel
theorem dL_law_185 : decode cL_law 185 = .ok (.ifCond .eq 7, 3) := by decide +kernel
theorem dL_law_188 : decode cL_law 188 = .ok (.iconst 1, 1) := by decide +kernel
theorem dL_law_189 : decode cL_law 189 = .ok (.goto 4, 3) := by decide +kernel
theorem dL_law_192 : decode cL_law 192 = .ok (.iconst 0, 1) := by decide +kernel
theorem dL_law_193 : decode cL_law 193 = .ok (.aload_n 3, 1) := by decide +kernel
theorem dL_law_194 : decode cL_law 194 = .ok (.invokestatic 77, 3) := by decide +kernel
theorem dL_law_197 : decode cL_law 197 = .ok (.istore 5, 2) := by decide +kernel
theorem dL_law_199 : decode cL_law 199 = .ok (.aload_n 2, 1) := by decide +kernel
theorem dL_law_200 : decode cL_law 200 = .ok (.aload_n 0, 1) := by decide +kernel
theorem dL_law_201 : decode cL_law 201 = .ok (.iload 4, 2) := by decide +kernel
theorem dL_law_203 : decode cL_law 203 = .ok (.iconst 1, 1) := by decide +kernel
theorem dL_law_204 : decode cL_law 204 = .ok (.iadd, 1) := by decide +kernel
theorem dL_law_205 : decode cL_law 205 = .ok (.iaload, 1) := by decide +kernel
theorem dL_law_206 : decode cL_law 206 = .ok (.aload_n 0, 1) := by decide +kernel
theorem dL_law_207 : decode cL_law 207 = .ok (.iload 4, 2) := by decide +kernel
theorem dL_law_209 : decode cL_law 209 = .ok (.iconst 2, 1) := by decide +kernel
theorem dL_law_210 : decode cL_law 210 = .ok (.iadd, 1) := by decide +kernel
theorem dL_law_211 : decode cL_law 211 = .ok (.iaload, 1) := by decide +kernel
theorem dL_law_212 : decode cL_law 212 = .ok (.aload_n 0, 1) := by decide +kernel
theorem dL_law_213 : decode cL_law 213 = .ok (.iload 4, 2) := by decide +kernel
theorem dL_law_215 : decode cL_law 215 = .ok (.iconst 3, 1) := by decide +kernel
theorem dL_law_216 : decode cL_law 216 = .ok (.iadd, 1) := by decide +kernel
theorem dL_law_217 : decode cL_law 217 = .ok (.iaload, 1) := by decide +kernel
theorem dL_law_218 : decode cL_law 218 = .ok (.aload_n 0, 1) := by decide +kernel
theorem dL_law_219 : decode cL_law 219 = .ok (.iload 4, 2) := by decide +kernel
theorem dL_law_221 : decode cL_law 221 = .ok (.iconst 4, 1) := by decide +kernel
theorem dL_law_222 : decode cL_law 222 = .ok (.iadd, 1) := by decide +kernel
theorem dL_law_223 : decode cL_law 223 = .ok (.iaload, 1) := by decide +kernel
theorem dL_law_224 : decode cL_law 224 = .ok (.ifCond .eq 7, 3) := by decide +kernel
theorem dL_law_227 : decode cL_law 227 = .ok (.iconst 1, 1) := by decide +kernel
theorem dL_law_228 : decode cL_law 228 = .ok (.goto 4, 3) := by decide +kernel
theorem dL_law_231 : decode cL_law 231 = .ok (.iconst 0, 1) := by decide +kernel
theorem dL_law_232 : decode cL_law 232 = .ok (.invokevirtual 82, 3) := by decide +kernel
theorem dL_law_235 : decode cL_law 235 = .ok (.istore 6, 2) := by decide +kernel
theorem dL_law_237 : decode cL_law 237 = .ok (.aload_n 2, 1) := by decide +kernel
theorem dL_law_238 : decode cL_law 238 = .ok (.invokevirtual 83, 3) := by decide +kernel
theorem dL_law_241 : decode cL_law 241 = .ok (.iload 5, 2) := by decide +kernel
theorem dL_law_243 : decode cL_law 243 = .ok (.if_icmp .eq 5, 3) := by decide +kernel
theorem dL_law_246 : decode cL_law 246 = .ok (.iconst 0, 1) := by decide +kernel
theorem dL_law_247 : decode cL_law 247 = .ok (.ireturn, 1) := by decide +kernel
theorem dL_law_248 : decode cL_law 248 = .ok (.iload 5, 2) := by decide +kernel
theorem dL_law_250 : decode cL_law 250 = .ok (.ifCond .ne 15, 3) := by decide +kernel
theorem dL_law_253 : decode cL_law 253 = .ok (.aload_n 3, 1) := by decide +kernel
theorem dL_law_254 : decode cL_law 254 = .ok (.iconst 0, 1) := by decide +kernel
theorem dL_law_255 : decode cL_law 255 = .ok (.laload, 1) := by decide +kernel
theorem dL_law_256 : decode cL_law 256 = .ok (.iload 6, 2) := by decide +kernel
theorem dL_law_258 : decode cL_law 258 = .ok (.i2l, 1) := by decide +kernel
theorem dL_law_259 : decode cL_law 259 = .ok (.lcmp, 1) := by decide +kernel
theorem dL_law_260 : decode cL_law 260 = .ok (.ifCond .eq 5, 3) := by decide +kernel
theorem dL_law_263 : decode cL_law 263 = .ok (.iconst 0, 1) := by decide +kernel
theorem dL_law_264 : decode cL_law 264 = .ok (.ireturn, 1) := by decide +kernel
theorem dL_law_265 : decode cL_law 265 = .ok (.goto 1057, 3) := by decide +kernel
theorem dL_law_268 : decode cL_law 268 = .ok (.aload_n 1, 1) := by decide +kernel
theorem dL_law_269 : decode cL_law 269 = .ok (.invokevirtual 86, 3) := by decide +kernel
theorem dL_law_272 : decode cL_law 272 = .ok (.aload_n 2, 1) := by decide +kernel
theorem dL_law_273 : decode cL_law 273 = .ok (.invokevirtual 89, 3) := by decide +kernel
theorem dL_law_276 : decode cL_law 276 = .ok (.if_icmp .eq 1046, 3) := by decide +kernel
theorem dL_law_279 : decode cL_law 279 = .ok (.iconst 0, 1) := by decide +kernel
theorem dL_law_280 : decode cL_law 280 = .ok (.ireturn, 1) := by decide +kernel
theorem dL_law_281 : decode cL_law 281 = .ok (.aload_n 1, 1) := by decide +kernel
theorem dL_law_282 : decode cL_law 282 = .ok (.aload_n 0, 1) := by decide +kernel
theorem dL_law_283 : decode cL_law 283 = .ok (.iload 4, 2) := by decide +kernel
theorem dL_law_285 : decode cL_law 285 = .ok (.iconst 1, 1) := by decide +kernel
theorem dL_law_286 : decode cL_law 286 = .ok (.iadd, 1) := by decide +kernel
theorem dL_law_287 : decode cL_law 287 = .ok (.iaload, 1) := by decide +kernel
theorem dL_law_288 : decode cL_law 288 = .ok (.aload_n 3, 1) := by decide +kernel
theorem dL_law_289 : decode cL_law 289 = .ok (.invokestatic 90, 3) := by decide +kernel
theorem dL_law_292 : decode cL_law 292 = .ok (.istore 5, 2) := by decide +kernel
theorem dL_law_294 : decode cL_law 294 = .ok (.aload_n 2, 1) := by decide +kernel
theorem dL_law_295 : decode cL_law 295 = .ok (.aload_n 0, 1) := by decide +kernel
theorem dL_law_296 : decode cL_law 296 = .ok (.iload 4, 2) := by decide +kernel
theorem dL_law_298 : decode cL_law 298 = .ok (.iconst 1, 1) := by decide +kernel
theorem dL_law_299 : decode cL_law 299 = .ok (.iadd, 1) := by decide +kernel
theorem dL_law_300 : decode cL_law 300 = .ok (.iaload, 1) := by decide +kernel
theorem dL_law_301 : decode cL_law 301 = .ok (.invokevirtual 93, 3) := by decide +kernel
theorem dL_law_304 : decode cL_law 304 = .ok (.istore 6, 2) := by decide +kernel
theorem dL_law_306 : decode cL_law 306 = .ok (.aload_n 2, 1) := by decide +kernel
theorem dL_law_307 : decode cL_law 307 = .ok (.invokevirtual 83, 3) := by decide +kernel
theorem dL_law_310 : decode cL_law 310 = .ok (.iload 5, 2) := by decide +kernel
theorem dL_law_312 : decode cL_law 312 = .ok (.if_icmp .eq 5, 3) := by decide +kernel
theorem dL_law_315 : decode cL_law 315 = .ok (.iconst 0, 1) := by decide +kernel
theorem dL_law_316 : decode cL_law 316 = .ok (.ireturn, 1) := by decide +kernel
theorem dL_law_317 : decode cL_law 317 = .ok (.iload 5, 2) := by decide +kernel
theorem dL_law_319 : decode cL_law 319 = .ok (.ifCond .ne 15, 3) := by decide +kernel
theorem dL_law_322 : decode cL_law 322 = .ok (.aload_n 3, 1) := by decide +kernel
theorem dL_law_323 : decode cL_law 323 = .ok (.iconst 0, 1) := by decide +kernel
theorem dL_law_324 : decode cL_law 324 = .ok (.laload, 1) := by decide +kernel
theorem dL_law_325 : decode cL_law 325 = .ok (.iload 6, 2) := by decide +kernel
theorem dL_law_327 : decode cL_law 327 = .ok (.i2l, 1) := by decide +kernel
theorem dL_law_328 : decode cL_law 328 = .ok (.lcmp, 1) := by decide +kernel
theorem dL_law_329 : decode cL_law 329 = .ok (.ifCond .eq 5, 3) := by decide +kernel
theorem dL_law_332 : decode cL_law 332 = .ok (.iconst 0, 1) := by decide +kernel
theorem dL_law_333 : decode cL_law 333 = .ok (.ireturn, 1) := by decide +kernel
theorem dL_law_334 : decode cL_law 334 = .ok (.goto 988, 3) := by decide +kernel
theorem dL_law_337 : decode cL_law 337 = .ok (.aload_n 1, 1) := by decide +kernel
theorem dL_law_338 : decode cL_law 338 = .ok (.invokevirtual 94, 3) := by decide +kernel
theorem dL_law_341 : decode cL_law 341 = .ok (.aload_n 2, 1) := by decide +kernel
theorem dL_law_342 : decode cL_law 342 = .ok (.invokevirtual 97, 3) := by decide +kernel
theorem dL_law_345 : decode cL_law 345 = .ok (.if_icmp .eq 977, 3) := by decide +kernel
theorem dL_law_348 : decode cL_law 348 = .ok (.iconst 0, 1) := by decide +kernel
theorem dL_law_349 : decode cL_law 349 = .ok (.ireturn, 1) := by decide +kernel
theorem dL_law_350 : decode cL_law 350 = .ok (.aload_n 1, 1) := by decide +kernel
theorem dL_law_351 : decode cL_law 351 = .ok (.aload_n 0, 1) := by decide +kernel
theorem dL_law_352 : decode cL_law 352 = .ok (.iload 4, 2) := by decide +kernel
theorem dL_law_354 : decode cL_law 354 = .ok (.iconst 1, 1) := by decide +kernel
theorem dL_law_355 : decode cL_law 355 = .ok (.iadd, 1) := by decide +kernel
theorem dL_law_356 : decode cL_law 356 = .ok (.iaload, 1) := by decide +kernel
theorem dL_law_357 : decode cL_law 357 = .ok (.aload_n 0, 1) := by decide +kernel
theorem dL_law_358 : decode cL_law 358 = .ok (.iload 4, 2) := by decide +kernel
theorem dL_law_360 : decode cL_law 360 = .ok (.iconst 2, 1) := by decide +kernel
theorem dL_law_361 : decode cL_law 361 = .ok (.iadd, 1) := by decide +kernel
theorem dL_law_362 : decode cL_law 362 = .ok (.iaload, 1) := by decide +kernel
theorem dL_law_363 : decode cL_law 363 = .ok (.aload_n 3, 1) := by decide +kernel
theorem dL_law_364 : decode cL_law 364 = .ok (.invokestatic 98, 3) := by decide +kernel
theorem dL_law_367 : decode cL_law 367 = .ok (.istore 5, 2) := by decide +kernel
theorem dL_law_369 : decode cL_law 369 = .ok (.aload_n 2, 1) := by decide +kernel
theorem dL_law_370 : decode cL_law 370 = .ok (.aload_n 0, 1) := by decide +kernel
theorem dL_law_371 : decode cL_law 371 = .ok (.iload 4, 2) := by decide +kernel
theorem dL_law_373 : decode cL_law 373 = .ok (.iconst 1, 1) := by decide +kernel
theorem dL_law_374 : decode cL_law 374 = .ok (.iadd, 1) := by decide +kernel
theorem dL_law_375 : decode cL_law 375 = .ok (.iaload, 1) := by decide +kernel
theorem dL_law_376 : decode cL_law 376 = .ok (.aload_n 0, 1) := by decide +kernel
theorem dL_law_377 : decode cL_law 377 = .ok (.iload 4, 2) := by decide +kernel
theorem dL_law_379 : decode cL_law 379 = .ok (.iconst 2, 1) := by decide +kernel
theorem dL_law_380 : decode cL_law 380 = .ok (.iadd, 1) := by decide +kernel
theorem dL_law_381 : decode cL_law 381 = .ok (.iaload, 1) := by decide +kernel
theorem dL_law_382 : decode cL_law 382 = .ok (.invokevirtual 101, 3) := by decide +kernel
theorem dL_law_385 : decode cL_law 385 = .ok (.istore 6, 2) := by decide +kernel
theorem dL_law_387 : decode cL_law 387 = .ok (.aload_n 2, 1) := by decide +kernel
theorem dL_law_388 : decode cL_law 388 = .ok (.invokevirtual 83, 3) := by decide +kernel
theorem dL_law_391 : decode cL_law 391 = .ok (.iload 5, 2) := by decide +kernel
theorem dL_law_393 : decode cL_law 393 = .ok (.if_icmp .eq 5, 3) := by decide +kernel
theorem dL_law_396 : decode cL_law 396 = .ok (.iconst 0, 1) := by decide +kernel
theorem dL_law_397 : decode cL_law 397 = .ok (.ireturn, 1) := by decide +kernel
theorem dL_law_398 : decode cL_law 398 = .ok (.iload 5, 2) := by decide +kernel
theorem dL_law_400 : decode cL_law 400 = .ok (.ifCond .ne 15, 3) := by decide +kernel
theorem dL_law_403 : decode cL_law 403 = .ok (.aload_n 3, 1) := by decide +kernel
theorem dL_law_404 : decode cL_law 404 = .ok (.iconst 0, 1) := by decide +kernel
theorem dL_law_405 : decode cL_law 405 = .ok (.laload, 1) := by decide +kernel
theorem dL_law_406 : decode cL_law 406 = .ok (.iload 6, 2) := by decide +kernel
theorem dL_law_408 : decode cL_law 408 = .ok (.i2l, 1) := by decide +kernel
theorem dL_law_409 : decode cL_law 409 = .ok (.lcmp, 1) := by decide +kernel
theorem dL_law_410 : decode cL_law 410 = .ok (.ifCond .eq 5, 3) := by decide +kernel
theorem dL_law_413 : decode cL_law 413 = .ok (.iconst 0, 1) := by decide +kernel
theorem dL_law_414 : decode cL_law 414 = .ok (.ireturn, 1) := by decide +kernel
theorem dL_law_415 : decode cL_law 415 = .ok (.goto 907, 3) := by decide +kernel
theorem dL_law_418 : decode cL_law 418 = .ok (.aload_n 1, 1) := by decide +kernel
theorem dL_law_419 : decode cL_law 419 = .ok (.aload_n 0, 1) := by decide +kernel
theorem dL_law_420 : decode cL_law 420 = .ok (.iload 4, 2) := by decide +kernel
theorem dL_law_422 : decode cL_law 422 = .ok (.iconst 1, 1) := by decide +kernel
theorem dL_law_423 : decode cL_law 423 = .ok (.iadd, 1) := by decide +kernel
theorem dL_law_424 : decode cL_law 424 = .ok (.iaload, 1) := by decide +kernel
theorem dL_law_425 : decode cL_law 425 = .ok (.aload_n 3, 1) := by decide +kernel
theorem dL_law_426 : decode cL_law 426 = .ok (.invokestatic 102, 3) := by decide +kernel
theorem dL_law_429 : decode cL_law 429 = .ok (.istore 5, 2) := by decide +kernel
theorem dL_law_431 : decode cL_law 431 = .ok (.aload_n 2, 1) := by decide +kernel
theorem dL_law_432 : decode cL_law 432 = .ok (.aload_n 0, 1) := by decide +kernel
theorem dL_law_433 : decode cL_law 433 = .ok (.iload 4, 2) := by decide +kernel
theorem dL_law_435 : decode cL_law 435 = .ok (.iconst 1, 1) := by decide +kernel
theorem dL_law_436 : decode cL_law 436 = .ok (.iadd, 1) := by decide +kernel
theorem dL_law_437 : decode cL_law 437 = .ok (.iaload, 1) := by decide +kernel
theorem dL_law_438 : decode cL_law 438 = .ok (.invokevirtual 104, 3) := by decide +kernel
theorem dL_law_441 : decode cL_law 441 = .ok (.istore 6, 2) := by decide +kernel
theorem dL_law_443 : decode cL_law 443 = .ok (.aload_n 2, 1) := by decide +kernel
theorem dL_law_444 : decode cL_law 444 = .ok (.invokevirtual 83, 3) := by decide +kernel
theorem dL_law_447 : decode cL_law 447 = .ok (.iload 5, 2) := by decide +kernel
theorem dL_law_449 : decode cL_law 449 = .ok (.if_icmp .eq 5, 3) := by decide +kernel
theorem dL_law_452 : decode cL_law 452 = .ok (.iconst 0, 1) := by decide +kernel
theorem dL_law_453 : decode cL_law 453 = .ok (.ireturn, 1) := by decide +kernel
theorem dL_law_454 : decode cL_law 454 = .ok (.iload 5, 2) := by decide +kernel
theorem dL_law_456 : decode cL_law 456 = .ok (.ifCond .ne 15, 3) := by decide +kernel
theorem dL_law_459 : decode cL_law 459 = .ok (.aload_n 3, 1) := by decide +kernel
theorem dL_law_460 : decode cL_law 460 = .ok (.iconst 0, 1) := by decide +kernel
theorem dL_law_461 : decode cL_law 461 = .ok (.laload, 1) := by decide +kernel
theorem dL_law_462 : decode cL_law 462 = .ok (.iload 6, 2) := by decide +kernel
theorem dL_law_464 : decode cL_law 464 = .ok (.i2l, 1) := by decide +kernel
theorem dL_law_465 : decode cL_law 465 = .ok (.lcmp, 1) := by decide +kernel
theorem dL_law_466 : decode cL_law 466 = .ok (.ifCond .eq 5, 3) := by decide +kernel
theorem dL_law_469 : decode cL_law 469 = .ok (.iconst 0, 1) := by decide +kernel
theorem dL_law_470 : decode cL_law 470 = .ok (.ireturn, 1) := by decide +kernel
theorem dL_law_471 : decode cL_law 471 = .ok (.goto 851, 3) := by decide +kernel
theorem dL_law_474 : decode cL_law 474 = .ok (.aload_n 1, 1) := by decide +kernel
theorem dL_law_475 : decode cL_law 475 = .ok (.invokevirtual 105, 3) := by decide +kernel
theorem dL_law_478 : decode cL_law 478 = .ok (.aload_n 2, 1) := by decide +kernel
theorem dL_law_479 : decode cL_law 479 = .ok (.invokevirtual 108, 3) := by decide +kernel
theorem dL_law_482 : decode cL_law 482 = .ok (.if_icmp .eq 840, 3) := by decide +kernel
theorem dL_law_485 : decode cL_law 485 = .ok (.iconst 0, 1) := by decide +kernel
theorem dL_law_486 : decode cL_law 486 = .ok (.ireturn, 1) := by decide +kernel
theorem dL_law_487 : decode cL_law 487 = .ok (.aload_n 1, 1) := by decide +kernel
theorem dL_law_488 : decode cL_law 488 = .ok (.invokevirtual 109, 3) := by decide +kernel
theorem dL_law_491 : decode cL_law 491 = .ok (.aload_n 2, 1) := by decide +kernel
theorem dL_law_492 : decode cL_law 492 = .ok (.invokevirtual 112, 3) := by decide +kernel
theorem dL_law_495 : decode cL_law 495 = .ok (.if_icmp .eq 827, 3) := by decide +kernel
theorem dL_law_498 : decode cL_law 498 = .ok (.iconst 0, 1) := by decide +kernel
theorem dL_law_499 : decode cL_law 499 = .ok (.ireturn, 1) := by decide +kernel
theorem dL_law_500 : decode cL_law 500 = .ok (.aload_n 1, 1) := by decide +kernel
theorem dL_law_501 : decode cL_law 501 = .ok (.aload_n 0, 1) := by decide +kernel
theorem dL_law_502 : decode cL_law 502 = .ok (.iload 4, 2) := by decide +kernel
theorem dL_law_504 : decode cL_law 504 = .ok (.iconst 1, 1) := by decide +kernel
theorem dL_law_505 : decode cL_law 505 = .ok (.iadd, 1) := by decide +kernel
theorem dL_law_506 : decode cL_law 506 = .ok (.iaload, 1) := by decide +kernel
theorem dL_law_507 : decode cL_law 507 = .ok (.aload_n 3, 1) := by decide +kernel
theorem dL_law_508 : decode cL_law 508 = .ok (.invokestatic 113, 3) := by decide +kernel
theorem dL_law_511 : decode cL_law 511 = .ok (.istore 5, 2) := by decide +kernel
theorem dL_law_513 : decode cL_law 513 = .ok (.aload_n 2, 1) := by decide +kernel
theorem dL_law_514 : decode cL_law 514 = .ok (.aload_n 0, 1) := by decide +kernel
theorem dL_law_515 : decode cL_law 515 = .ok (.iload 4, 2) := by decide +kernel
theorem dL_law_517 : decode cL_law 517 = .ok (.iconst 1, 1) := by decide +kernel
theorem dL_law_518 : decode cL_law 518 = .ok (.iadd, 1) := by decide +kernel
theorem dL_law_519 : decode cL_law 519 = .ok (.iaload, 1) := by decide +kernel
theorem dL_law_520 : decode cL_law 520 = .ok (.invokevirtual 115, 3) := by decide +kernel
theorem dL_law_523 : decode cL_law 523 = .ok (.istore 6, 2) := by decide +kernel
theorem dL_law_525 : decode cL_law 525 = .ok (.aload_n 2, 1) := by decide +kernel
theorem dL_law_526 : decode cL_law 526 = .ok (.invokevirtual 83, 3) := by decide +kernel
theorem dL_law_529 : decode cL_law 529 = .ok (.iload 5, 2) := by decide +kernel
theorem dL_law_531 : decode cL_law 531 = .ok (.if_icmp .eq 5, 3) := by decide +kernel
theorem dL_law_534 : decode cL_law 534 = .ok (.iconst 0, 1) := by decide +kernel
theorem dL_law_535 : decode cL_law 535 = .ok (.ireturn, 1) := by decide +kernel
theorem dL_law_536 : decode cL_law 536 = .ok (.iload 5, 2) := by decide +kernel
theorem dL_law_538 : decode cL_law 538 = .ok (.ifCond .ne 15, 3) := by decide +kernel
theorem dL_law_541 : decode cL_law 541 = .ok (.aload_n 3, 1) := by decide +kernel
theorem dL_law_542 : decode cL_law 542 = .ok (.iconst 0, 1) := by decide +kernel
theorem dL_law_543 : decode cL_law 543 = .ok (.laload, 1) := by decide +kernel
theorem dL_law_544 : decode cL_law 544 = .ok (.iload 6, 2) := by decide +kernel
theorem dL_law_546 : decode cL_law 546 = .ok (.i2l, 1) := by decide +kernel
theorem dL_law_547 : decode cL_law 547 = .ok (.lcmp, 1) := by decide +kernel
theorem dL_law_548 : decode cL_law 548 = .ok (.ifCond .eq 5, 3) := by decide +kernel
theorem dL_law_551 : decode cL_law 551 = .ok (.iconst 0, 1) := by decide +kernel
theorem dL_law_552 : decode cL_law 552 = .ok (.ireturn, 1) := by decide +kernel
theorem dL_law_553 : decode cL_law 553 = .ok (.goto 769, 3) := by decide +kernel
theorem dL_law_556 : decode cL_law 556 = .ok (.aload_n 1, 1) := by decide +kernel
theorem dL_law_557 : decode cL_law 557 = .ok (.aload_n 0, 1) := by decide +kernel
theorem dL_law_558 : decode cL_law 558 = .ok (.iload 4, 2) := by decide +kernel
theorem dL_law_560 : decode cL_law 560 = .ok (.iconst 1, 1) := by decide +kernel
theorem dL_law_561 : decode cL_law 561 = .ok (.iadd, 1) := by decide +kernel
theorem dL_law_562 : decode cL_law 562 = .ok (.iaload, 1) := by decide +kernel
theorem dL_law_563 : decode cL_law 563 = .ok (.aload_n 3, 1) := by decide +kernel
theorem dL_law_564 : decode cL_law 564 = .ok (.invokestatic 116, 3) := by decide +kernel
theorem dL_law_567 : decode cL_law 567 = .ok (.istore 5, 2) := by decide +kernel
theorem dL_law_569 : decode cL_law 569 = .ok (.aload_n 2, 1) := by decide +kernel
theorem dL_law_570 : decode cL_law 570 = .ok (.aload_n 0, 1) := by decide +kernel
theorem dL_law_571 : decode cL_law 571 = .ok (.iload 4, 2) := by decide +kernel
theorem dL_law_573 : decode cL_law 573 = .ok (.iconst 1, 1) := by decide +kernel
theorem dL_law_574 : decode cL_law 574 = .ok (.iadd, 1) := by decide +kernel
theorem dL_law_575 : decode cL_law 575 = .ok (.iaload, 1) := by decide +kernel
theorem dL_law_576 : decode cL_law 576 = .ok (.invokevirtual 118, 3) := by decide +kernel
theorem dL_law_579 : decode cL_law 579 = .ok (.istore 6, 2) := by decide +kernel
theorem dL_law_581 : decode cL_law 581 = .ok (.aload_n 2, 1) := by decide +kernel
theorem dL_law_582 : decode cL_law 582 = .ok (.invokevirtual 83, 3) := by decide +kernel
theorem dL_law_585 : decode cL_law 585 = .ok (.iload 5, 2) := by decide +kernel
theorem dL_law_587 : decode cL_law 587 = .ok (.if_icmp .eq 5, 3) := by decide +kernel
theorem dL_law_590 : decode cL_law 590 = .ok (.iconst 0, 1) := by decide +kernel
theorem dL_law_591 : decode cL_law 591 = .ok (.ireturn, 1) := by decide +kernel
theorem dL_law_592 : decode cL_law 592 = .ok (.iload 5, 2) := by decide +kernel
theorem dL_law_594 : decode cL_law 594 = .ok (.ifCond .ne 15, 3) := by decide +kernel
theorem dL_law_597 : decode cL_law 597 = .ok (.aload_n 3, 1) := by decide +kernel
theorem dL_law_598 : decode cL_law 598 = .ok (.iconst 0, 1) := by decide +kernel
theorem dL_law_599 : decode cL_law 599 = .ok (.laload, 1) := by decide +kernel
theorem dL_law_600 : decode cL_law 600 = .ok (.iload 6, 2) := by decide +kernel
theorem dL_law_602 : decode cL_law 602 = .ok (.i2l, 1) := by decide +kernel
theorem dL_law_603 : decode cL_law 603 = .ok (.lcmp, 1) := by decide +kernel
theorem dL_law_604 : decode cL_law 604 = .ok (.ifCond .eq 5, 3) := by decide +kernel
theorem dL_law_607 : decode cL_law 607 = .ok (.iconst 0, 1) := by decide +kernel
theorem dL_law_608 : decode cL_law 608 = .ok (.ireturn, 1) := by decide +kernel
theorem dL_law_609 : decode cL_law 609 = .ok (.goto 713, 3) := by decide +kernel
theorem dL_law_612 : decode cL_law 612 = .ok (.aload_n 1, 1) := by decide +kernel
theorem dL_law_613 : decode cL_law 613 = .ok (.aload_n 0, 1) := by decide +kernel
theorem dL_law_614 : decode cL_law 614 = .ok (.iload 4, 2) := by decide +kernel
theorem dL_law_616 : decode cL_law 616 = .ok (.iconst 1, 1) := by decide +kernel
theorem dL_law_617 : decode cL_law 617 = .ok (.iadd, 1) := by decide +kernel
theorem dL_law_618 : decode cL_law 618 = .ok (.iaload, 1) := by decide +kernel
theorem dL_law_619 : decode cL_law 619 = .ok (.aload_n 0, 1) := by decide +kernel
theorem dL_law_620 : decode cL_law 620 = .ok (.iload 4, 2) := by decide +kernel
theorem dL_law_622 : decode cL_law 622 = .ok (.iconst 2, 1) := by decide +kernel
theorem dL_law_623 : decode cL_law 623 = .ok (.iadd, 1) := by decide +kernel
theorem dL_law_624 : decode cL_law 624 = .ok (.iaload, 1) := by decide +kernel
theorem dL_law_625 : decode cL_law 625 = .ok (.aload_n 3, 1) := by decide +kernel
theorem dL_law_626 : decode cL_law 626 = .ok (.invokestatic 119, 3) := by decide +kernel
theorem dL_law_629 : decode cL_law 629 = .ok (.istore 5, 2) := by decide +kernel
theorem dL_law_631 : decode cL_law 631 = .ok (.aload_n 2, 1) := by decide +kernel
theorem dL_law_632 : decode cL_law 632 = .ok (.aload_n 0, 1) := by decide +kernel
theorem dL_law_633 : decode cL_law 633 = .ok (.iload 4, 2) := by decide +kernel
theorem dL_law_635 : decode cL_law 635 = .ok (.iconst 1, 1) := by decide +kernel
theorem dL_law_636 : decode cL_law 636 = .ok (.iadd, 1) := by decide +kernel
theorem dL_law_637 : decode cL_law 637 = .ok (.iaload, 1) := by decide +kernel
theorem dL_law_638 : decode cL_law 638 = .ok (.aload_n 0, 1) := by decide +kernel
theorem dL_law_639 : decode cL_law 639 = .ok (.iload 4, 2) := by decide +kernel
theorem dL_law_641 : decode cL_law 641 = .ok (.iconst 2, 1) := by decide +kernel
theorem dL_law_642 : decode cL_law 642 = .ok (.iadd, 1) := by decide +kernel
theorem dL_law_643 : decode cL_law 643 = .ok (.iaload, 1) := by decide +kernel
theorem dL_law_644 : decode cL_law 644 = .ok (.invokevirtual 121, 3) := by decide +kernel
theorem dL_law_647 : decode cL_law 647 = .ok (.istore 6, 2) := by decide +kernel
theorem dL_law_649 : decode cL_law 649 = .ok (.aload_n 2, 1) := by decide +kernel
theorem dL_law_650 : decode cL_law 650 = .ok (.invokevirtual 83, 3) := by decide +kernel
theorem dL_law_653 : decode cL_law 653 = .ok (.iload 5, 2) := by decide +kernel
theorem dL_law_655 : decode cL_law 655 = .ok (.if_icmp .eq 5, 3) := by decide +kernel
theorem dL_law_658 : decode cL_law 658 = .ok (.iconst 0, 1) := by decide +kernel
theorem dL_law_659 : decode cL_law 659 = .ok (.ireturn, 1) := by decide +kernel
theorem dL_law_660 : decode cL_law 660 = .ok (.iload 5, 2) := by decide +kernel
theorem dL_law_662 : decode cL_law 662 = .ok (.ifCond .ne 15, 3) := by decide +kernel
theorem dL_law_665 : decode cL_law 665 = .ok (.aload_n 3, 1) := by decide +kernel
theorem dL_law_666 : decode cL_law 666 = .ok (.iconst 0, 1) := by decide +kernel
theorem dL_law_667 : decode cL_law 667 = .ok (.laload, 1) := by decide +kernel
theorem dL_law_668 : decode cL_law 668 = .ok (.iload 6, 2) := by decide +kernel
theorem dL_law_670 : decode cL_law 670 = .ok (.i2l, 1) := by decide +kernel
theorem dL_law_671 : decode cL_law 671 = .ok (.lcmp, 1) := by decide +kernel
theorem dL_law_672 : decode cL_law 672 = .ok (.ifCond .eq 5, 3) := by decide +kernel
theorem dL_law_675 : decode cL_law 675 = .ok (.iconst 0, 1) := by decide +kernel
theorem dL_law_676 : decode cL_law 676 = .ok (.ireturn, 1) := by decide +kernel
theorem dL_law_677 : decode cL_law 677 = .ok (.goto 645, 3) := by decide +kernel
theorem dL_law_680 : decode cL_law 680 = .ok (.aload_n 1, 1) := by decide +kernel
theorem dL_law_681 : decode cL_law 681 = .ok (.aload_n 0, 1) := by decide +kernel
theorem dL_law_682 : decode cL_law 682 = .ok (.iload 4, 2) := by decide +kernel
theorem dL_law_684 : decode cL_law 684 = .ok (.iconst 1, 1) := by decide +kernel
theorem dL_law_685 : decode cL_law 685 = .ok (.iadd, 1) := by decide +kernel
theorem dL_law_686 : decode cL_law 686 = .ok (.iaload, 1) := by decide +kernel
theorem dL_law_687 : decode cL_law 687 = .ok (.aload_n 3, 1) := by decide +kernel
theorem dL_law_688 : decode cL_law 688 = .ok (.invokestatic 122, 3) := by decide +kernel
theorem dL_law_691 : decode cL_law 691 = .ok (.istore 5, 2) := by decide +kernel
theorem dL_law_693 : decode cL_law 693 = .ok (.aload_n 2, 1) := by decide +kernel
theorem dL_law_694 : decode cL_law 694 = .ok (.aload_n 0, 1) := by decide +kernel
theorem dL_law_695 : decode cL_law 695 = .ok (.iload 4, 2) := by decide +kernel
theorem dL_law_697 : decode cL_law 697 = .ok (.iconst 1, 1) := by decide +kernel
theorem dL_law_698 : decode cL_law 698 = .ok (.iadd, 1) := by decide +kernel
theorem dL_law_699 : decode cL_law 699 = .ok (.iaload, 1) := by decide +kernel
theorem dL_law_700 : decode cL_law 700 = .ok (.invokevirtual 124, 3) := by decide +kernel
theorem dL_law_703 : decode cL_law 703 = .ok (.istore 6, 2) := by decide +kernel
theorem dL_law_705 : decode cL_law 705 = .ok (.aload_n 2, 1) := by decide +kernel
theorem dL_law_706 : decode cL_law 706 = .ok (.invokevirtual 83, 3) := by decide +kernel
theorem dL_law_709 : decode cL_law 709 = .ok (.iload 5, 2) := by decide +kernel
theorem dL_law_711 : decode cL_law 711 = .ok (.if_icmp .eq 5, 3) := by decide +kernel
theorem dL_law_714 : decode cL_law 714 = .ok (.iconst 0, 1) := by decide +kernel
theorem dL_law_715 : decode cL_law 715 = .ok (.ireturn, 1) := by decide +kernel
theorem dL_law_716 : decode cL_law 716 = .ok (.iload 5, 2) := by decide +kernel
theorem dL_law_718 : decode cL_law 718 = .ok (.ifCond .ne 15, 3) := by decide +kernel
theorem dL_law_721 : decode cL_law 721 = .ok (.aload_n 3, 1) := by decide +kernel
theorem dL_law_722 : decode cL_law 722 = .ok (.iconst 0, 1) := by decide +kernel
theorem dL_law_723 : decode cL_law 723 = .ok (.laload, 1) := by decide +kernel
theorem dL_law_724 : decode cL_law 724 = .ok (.iload 6, 2) := by decide +kernel
theorem dL_law_726 : decode cL_law 726 = .ok (.i2l, 1) := by decide +kernel
theorem dL_law_727 : decode cL_law 727 = .ok (.lcmp, 1) := by decide +kernel
theorem dL_law_728 : decode cL_law 728 = .ok (.ifCond .eq 5, 3) := by decide +kernel
theorem dL_law_731 : decode cL_law 731 = .ok (.iconst 0, 1) := by decide +kernel
theorem dL_law_732 : decode cL_law 732 = .ok (.ireturn, 1) := by decide +kernel
theorem dL_law_733 : decode cL_law 733 = .ok (.goto 589, 3) := by decide +kernel
theorem dL_law_736 : decode cL_law 736 = .ok (.aload_n 1, 1) := by decide +kernel
theorem dL_law_737 : decode cL_law 737 = .ok (.invokevirtual 125, 3) := by decide +kernel
theorem dL_law_740 : decode cL_law 740 = .ok (.aload_n 2, 1) := by decide +kernel
theorem dL_law_741 : decode cL_law 741 = .ok (.invokevirtual 128, 3) := by decide +kernel
theorem dL_law_744 : decode cL_law 744 = .ok (.if_icmp .eq 578, 3) := by decide +kernel
theorem dL_law_747 : decode cL_law 747 = .ok (.iconst 0, 1) := by decide +kernel
theorem dL_law_748 : decode cL_law 748 = .ok (.ireturn, 1) := by decide +kernel
theorem dL_law_749 : decode cL_law 749 = .ok (.aload_n 1, 1) := by decide +kernel
theorem dL_law_750 : decode cL_law 750 = .ok (.invokevirtual 129, 3) := by decide +kernel
theorem dL_law_753 : decode cL_law 753 = .ok (.aload_n 2, 1) := by decide +kernel
theorem dL_law_754 : decode cL_law 754 = .ok (.invokevirtual 132, 3) := by decide +kernel
theorem dL_law_757 : decode cL_law 757 = .ok (.if_icmp .eq 565, 3) := by decide +kernel
theorem dL_law_760 : decode cL_law 760 = .ok (.iconst 0, 1) := by decide +kernel
theorem dL_law_761 : decode cL_law 761 = .ok (.ireturn, 1) := by decide +kernel
theorem dL_law_762 : decode cL_law 762 = .ok (.aload_n 1, 1) := by decide +kernel
theorem dL_law_763 : decode cL_law 763 = .ok (.invokevirtual 133, 3) := by decide +kernel
theorem dL_law_766 : decode cL_law 766 = .ok (.aload_n 2, 1) := by decide +kernel
theorem dL_law_767 : decode cL_law 767 = .ok (.invokevirtual 136, 3) := by decide +kernel
theorem dL_law_770 : decode cL_law 770 = .ok (.if_icmp .eq 552, 3) := by decide +kernel
theorem dL_law_773 : decode cL_law 773 = .ok (.iconst 0, 1) := by decide +kernel
theorem dL_law_774 : decode cL_law 774 = .ok (.ireturn, 1) := by decide +kernel
theorem dL_law_775 : decode cL_law 775 = .ok (.aload_n 1, 1) := by decide +kernel
theorem dL_law_776 : decode cL_law 776 = .ok (.invokevirtual 137, 3) := by decide +kernel
end
section
theorem dL_law_779 : decode cL_law 779 = .ok (.aload_n 2, 1) := by decide +kernel
theorem dL_law_780 : decode cL_law 780 = .ok (.invokevirtual 140, 3) := by decide +kernel
theorem dL_law_783 : decode cL_law 783 = .ok (.if_icmp .eq 539, 3) := by decide +kernel
theorem dL_law_786 : decode cL_law 786 = .ok (.iconst 0, 1) := by decide +kernel
theorem dL_law_787 : decode cL_law 787 = .ok (.ireturn, 1) := by decide +kernel
theorem dL_law_788 : decode cL_law 788 = .ok (.aload_n 1, 1) := by decide +kernel
theorem dL_law_789 : decode cL_law 789 = .ok (.invokevirtual 141, 3) := by decide +kernel
theorem dL_law_792 : decode cL_law 792 = .ok (.aload_n 2, 1) := by decide +kernel
theorem dL_law_793 : decode cL_law 793 = .ok (.invokevirtual 144, 3) := by decide +kernel
theorem dL_law_796 : decode cL_law 796 = .ok (.if_icmp .eq 526, 3) := by decide +kernel
theorem dL_law_799 : decode cL_law 799 = .ok (.iconst 0, 1) := by decide +kernel
theorem dL_law_800 : decode cL_law 800 = .ok (.ireturn, 1) := by decide +kernel
theorem dL_law_801 : decode cL_law 801 = .ok (.aload_n 1, 1) := by decide +kernel
theorem dL_law_802 : decode cL_law 802 = .ok (.aload_n 3, 1) := by decide +kernel
theorem dL_law_803 : decode cL_law 803 = .ok (.invokestatic 145, 3) := by decide +kernel
theorem dL_law_806 : decode cL_law 806 = .ok (.istore 5, 2) := by decide +kernel
theorem dL_law_808 : decode cL_law 808 = .ok (.aload_n 2, 1) := by decide +kernel
theorem dL_law_809 : decode cL_law 809 = .ok (.invokevirtual 148, 3) := by decide +kernel
theorem dL_law_812 : decode cL_law 812 = .ok (.istore 6, 2) := by decide +kernel
theorem dL_law_814 : decode cL_law 814 = .ok (.aload_n 2, 1) := by decide +kernel
theorem dL_law_815 : decode cL_law 815 = .ok (.invokevirtual 83, 3) := by decide +kernel
theorem dL_law_818 : decode cL_law 818 = .ok (.iload 5, 2) := by decide +kernel
theorem dL_law_820 : decode cL_law 820 = .ok (.if_icmp .eq 5, 3) := by decide +kernel
theorem dL_law_823 : decode cL_law 823 = .ok (.iconst 0, 1) := by decide +kernel
theorem dL_law_824 : decode cL_law 824 = .ok (.ireturn, 1) := by decide +kernel
theorem dL_law_825 : decode cL_law 825 = .ok (.iload 5, 2) := by decide +kernel
theorem dL_law_827 : decode cL_law 827 = .ok (.ifCond .ne 15, 3) := by decide +kernel
theorem dL_law_830 : decode cL_law 830 = .ok (.aload_n 3, 1) := by decide +kernel
theorem dL_law_831 : decode cL_law 831 = .ok (.iconst 0, 1) := by decide +kernel
theorem dL_law_832 : decode cL_law 832 = .ok (.laload, 1) := by decide +kernel
theorem dL_law_833 : decode cL_law 833 = .ok (.iload 6, 2) := by decide +kernel
theorem dL_law_835 : decode cL_law 835 = .ok (.i2l, 1) := by decide +kernel
theorem dL_law_836 : decode cL_law 836 = .ok (.lcmp, 1) := by decide +kernel
theorem dL_law_837 : decode cL_law 837 = .ok (.ifCond .eq 5, 3) := by decide +kernel
theorem dL_law_840 : decode cL_law 840 = .ok (.iconst 0, 1) := by decide +kernel
theorem dL_law_841 : decode cL_law 841 = .ok (.ireturn, 1) := by decide +kernel
theorem dL_law_842 : decode cL_law 842 = .ok (.goto 480, 3) := by decide +kernel
theorem dL_law_845 : decode cL_law 845 = .ok (.aload_n 1, 1) := by decide +kernel
theorem dL_law_846 : decode cL_law 846 = .ok (.aload_n 0, 1) := by decide +kernel
theorem dL_law_847 : decode cL_law 847 = .ok (.iload 4, 2) := by decide +kernel
theorem dL_law_849 : decode cL_law 849 = .ok (.iconst 1, 1) := by decide +kernel
theorem dL_law_850 : decode cL_law 850 = .ok (.iadd, 1) := by decide +kernel
theorem dL_law_851 : decode cL_law 851 = .ok (.iaload, 1) := by decide +kernel
theorem dL_law_852 : decode cL_law 852 = .ok (.aload_n 3, 1) := by decide +kernel
theorem dL_law_853 : decode cL_law 853 = .ok (.invokestatic 149, 3) := by decide +kernel
theorem dL_law_856 : decode cL_law 856 = .ok (.istore 5, 2) := by decide +kernel
theorem dL_law_858 : decode cL_law 858 = .ok (.aload_n 2, 1) := by decide +kernel
theorem dL_law_859 : decode cL_law 859 = .ok (.aload_n 0, 1) := by decide +kernel
theorem dL_law_860 : decode cL_law 860 = .ok (.iload 4, 2) := by decide +kernel
theorem dL_law_862 : decode cL_law 862 = .ok (.iconst 1, 1) := by decide +kernel
theorem dL_law_863 : decode cL_law 863 = .ok (.iadd, 1) := by decide +kernel
theorem dL_law_864 : decode cL_law 864 = .ok (.iaload, 1) := by decide +kernel
theorem dL_law_865 : decode cL_law 865 = .ok (.invokevirtual 151, 3) := by decide +kernel
theorem dL_law_868 : decode cL_law 868 = .ok (.istore 6, 2) := by decide +kernel
theorem dL_law_870 : decode cL_law 870 = .ok (.aload_n 2, 1) := by decide +kernel
theorem dL_law_871 : decode cL_law 871 = .ok (.invokevirtual 83, 3) := by decide +kernel
theorem dL_law_874 : decode cL_law 874 = .ok (.iload 5, 2) := by decide +kernel
theorem dL_law_876 : decode cL_law 876 = .ok (.if_icmp .eq 5, 3) := by decide +kernel
theorem dL_law_879 : decode cL_law 879 = .ok (.iconst 0, 1) := by decide +kernel
theorem dL_law_880 : decode cL_law 880 = .ok (.ireturn, 1) := by decide +kernel
theorem dL_law_881 : decode cL_law 881 = .ok (.iload 5, 2) := by decide +kernel
theorem dL_law_883 : decode cL_law 883 = .ok (.ifCond .ne 15, 3) := by decide +kernel
theorem dL_law_886 : decode cL_law 886 = .ok (.aload_n 3, 1) := by decide +kernel
theorem dL_law_887 : decode cL_law 887 = .ok (.iconst 0, 1) := by decide +kernel
theorem dL_law_888 : decode cL_law 888 = .ok (.laload, 1) := by decide +kernel
theorem dL_law_889 : decode cL_law 889 = .ok (.iload 6, 2) := by decide +kernel
theorem dL_law_891 : decode cL_law 891 = .ok (.i2l, 1) := by decide +kernel
theorem dL_law_892 : decode cL_law 892 = .ok (.lcmp, 1) := by decide +kernel
theorem dL_law_893 : decode cL_law 893 = .ok (.ifCond .eq 5, 3) := by decide +kernel
theorem dL_law_896 : decode cL_law 896 = .ok (.iconst 0, 1) := by decide +kernel
theorem dL_law_897 : decode cL_law 897 = .ok (.ireturn, 1) := by decide +kernel
theorem dL_law_898 : decode cL_law 898 = .ok (.goto 424, 3) := by decide +kernel
theorem dL_law_901 : decode cL_law 901 = .ok (.aload_n 1, 1) := by decide +kernel
theorem dL_law_902 : decode cL_law 902 = .ok (.aload_n 0, 1) := by decide +kernel
theorem dL_law_903 : decode cL_law 903 = .ok (.iload 4, 2) := by decide +kernel
theorem dL_law_905 : decode cL_law 905 = .ok (.iconst 1, 1) := by decide +kernel
theorem dL_law_906 : decode cL_law 906 = .ok (.iadd, 1) := by decide +kernel
theorem dL_law_907 : decode cL_law 907 = .ok (.iaload, 1) := by decide +kernel
theorem dL_law_908 : decode cL_law 908 = .ok (.aload_n 3, 1) := by decide +kernel
theorem dL_law_909 : decode cL_law 909 = .ok (.invokestatic 152, 3) := by decide +kernel
theorem dL_law_912 : decode cL_law 912 = .ok (.istore 5, 2) := by decide +kernel
theorem dL_law_914 : decode cL_law 914 = .ok (.aload_n 2, 1) := by decide +kernel
theorem dL_law_915 : decode cL_law 915 = .ok (.aload_n 0, 1) := by decide +kernel
theorem dL_law_916 : decode cL_law 916 = .ok (.iload 4, 2) := by decide +kernel
theorem dL_law_918 : decode cL_law 918 = .ok (.iconst 1, 1) := by decide +kernel
theorem dL_law_919 : decode cL_law 919 = .ok (.iadd, 1) := by decide +kernel
theorem dL_law_920 : decode cL_law 920 = .ok (.iaload, 1) := by decide +kernel
theorem dL_law_921 : decode cL_law 921 = .ok (.invokevirtual 154, 3) := by decide +kernel
theorem dL_law_924 : decode cL_law 924 = .ok (.istore 6, 2) := by decide +kernel
theorem dL_law_926 : decode cL_law 926 = .ok (.aload_n 2, 1) := by decide +kernel
theorem dL_law_927 : decode cL_law 927 = .ok (.invokevirtual 83, 3) := by decide +kernel
theorem dL_law_930 : decode cL_law 930 = .ok (.iload 5, 2) := by decide +kernel
theorem dL_law_932 : decode cL_law 932 = .ok (.if_icmp .eq 5, 3) := by decide +kernel
theorem dL_law_935 : decode cL_law 935 = .ok (.iconst 0, 1) := by decide +kernel
theorem dL_law_936 : decode cL_law 936 = .ok (.ireturn, 1) := by decide +kernel
theorem dL_law_937 : decode cL_law 937 = .ok (.iload 5, 2) := by decide +kernel
theorem dL_law_939 : decode cL_law 939 = .ok (.ifCond .ne 15, 3) := by decide +kernel
theorem dL_law_942 : decode cL_law 942 = .ok (.aload_n 3, 1) := by decide +kernel
theorem dL_law_943 : decode cL_law 943 = .ok (.iconst 0, 1) := by decide +kernel
theorem dL_law_944 : decode cL_law 944 = .ok (.laload, 1) := by decide +kernel
theorem dL_law_945 : decode cL_law 945 = .ok (.iload 6, 2) := by decide +kernel
theorem dL_law_947 : decode cL_law 947 = .ok (.i2l, 1) := by decide +kernel
theorem dL_law_948 : decode cL_law 948 = .ok (.lcmp, 1) := by decide +kernel
theorem dL_law_949 : decode cL_law 949 = .ok (.ifCond .eq 5, 3) := by decide +kernel
theorem dL_law_952 : decode cL_law 952 = .ok (.iconst 0, 1) := by decide +kernel
theorem dL_law_953 : decode cL_law 953 = .ok (.ireturn, 1) := by decide +kernel
theorem dL_law_954 : decode cL_law 954 = .ok (.goto 368, 3) := by decide +kernel
theorem dL_law_957 : decode cL_law 957 = .ok (.aload_n 1, 1) := by decide +kernel
theorem dL_law_958 : decode cL_law 958 = .ok (.aload_n 0, 1) := by decide +kernel
theorem dL_law_959 : decode cL_law 959 = .ok (.iload 4, 2) := by decide +kernel
theorem dL_law_961 : decode cL_law 961 = .ok (.iconst 1, 1) := by decide +kernel
theorem dL_law_962 : decode cL_law 962 = .ok (.iadd, 1) := by decide +kernel
theorem dL_law_963 : decode cL_law 963 = .ok (.iaload, 1) := by decide +kernel
theorem dL_law_964 : decode cL_law 964 = .ok (.aload_n 3, 1) := by decide +kernel
theorem dL_law_965 : decode cL_law 965 = .ok (.invokestatic 155, 3) := by decide +kernel
theorem dL_law_968 : decode cL_law 968 = .ok (.istore 5, 2) := by decide +kernel
theorem dL_law_970 : decode cL_law 970 = .ok (.aload_n 2, 1) := by decide +kernel
theorem dL_law_971 : decode cL_law 971 = .ok (.aload_n 0, 1) := by decide +kernel
theorem dL_law_972 : decode cL_law 972 = .ok (.iload 4, 2) := by decide +kernel
theorem dL_law_974 : decode cL_law 974 = .ok (.iconst 1, 1) := by decide +kernel
theorem dL_law_975 : decode cL_law 975 = .ok (.iadd, 1) := by decide +kernel
theorem dL_law_976 : decode cL_law 976 = .ok (.iaload, 1) := by decide +kernel
theorem dL_law_977 : decode cL_law 977 = .ok (.invokevirtual 157, 3) := by decide +kernel
theorem dL_law_980 : decode cL_law 980 = .ok (.istore 6, 2) := by decide +kernel
theorem dL_law_982 : decode cL_law 982 = .ok (.aload_n 2, 1) := by decide +kernel
theorem dL_law_983 : decode cL_law 983 = .ok (.invokevirtual 83, 3) := by decide +kernel
theorem dL_law_986 : decode cL_law 986 = .ok (.iload 5, 2) := by decide +kernel
theorem dL_law_988 : decode cL_law 988 = .ok (.if_icmp .eq 5, 3) := by decide +kernel
theorem dL_law_991 : decode cL_law 991 = .ok (.iconst 0, 1) := by decide +kernel
theorem dL_law_992 : decode cL_law 992 = .ok (.ireturn, 1) := by decide +kernel
theorem dL_law_993 : decode cL_law 993 = .ok (.iload 5, 2) := by decide +kernel
theorem dL_law_995 : decode cL_law 995 = .ok (.ifCond .ne 15, 3) := by decide +kernel
theorem dL_law_998 : decode cL_law 998 = .ok (.aload_n 3, 1) := by decide +kernel
theorem dL_law_999 : decode cL_law 999 = .ok (.iconst 0, 1) := by decide +kernel
theorem dL_law_1000 : decode cL_law 1000 = .ok (.laload, 1) := by decide +kernel
theorem dL_law_1001 : decode cL_law 1001 = .ok (.iload 6, 2) := by decide +kernel
theorem dL_law_1003 : decode cL_law 1003 = .ok (.i2l, 1) := by decide +kernel
theorem dL_law_1004 : decode cL_law 1004 = .ok (.lcmp, 1) := by decide +kernel
theorem dL_law_1005 : decode cL_law 1005 = .ok (.ifCond .eq 5, 3) := by decide +kernel
theorem dL_law_1008 : decode cL_law 1008 = .ok (.iconst 0, 1) := by decide +kernel
theorem dL_law_1009 : decode cL_law 1009 = .ok (.ireturn, 1) := by decide +kernel
theorem dL_law_1010 : decode cL_law 1010 = .ok (.goto 312, 3) := by decide +kernel
theorem dL_law_1013 : decode cL_law 1013 = .ok (.aload_n 1, 1) := by decide +kernel
theorem dL_law_1014 : decode cL_law 1014 = .ok (.aload_n 0, 1) := by decide +kernel
theorem dL_law_1015 : decode cL_law 1015 = .ok (.iload 4, 2) := by decide +kernel
theorem dL_law_1017 : decode cL_law 1017 = .ok (.iconst 1, 1) := by decide +kernel
theorem dL_law_1018 : decode cL_law 1018 = .ok (.iadd, 1) := by decide +kernel
theorem dL_law_1019 : decode cL_law 1019 = .ok (.iaload, 1) := by decide +kernel
theorem dL_law_1020 : decode cL_law 1020 = .ok (.aload_n 3, 1) := by decide +kernel
theorem dL_law_1021 : decode cL_law 1021 = .ok (.invokestatic 158, 3) := by decide +kernel
theorem dL_law_1024 : decode cL_law 1024 = .ok (.istore 5, 2) := by decide +kernel
theorem dL_law_1026 : decode cL_law 1026 = .ok (.aload_n 2, 1) := by decide +kernel
theorem dL_law_1027 : decode cL_law 1027 = .ok (.aload_n 0, 1) := by decide +kernel
theorem dL_law_1028 : decode cL_law 1028 = .ok (.iload 4, 2) := by decide +kernel
theorem dL_law_1030 : decode cL_law 1030 = .ok (.iconst 1, 1) := by decide +kernel
theorem dL_law_1031 : decode cL_law 1031 = .ok (.iadd, 1) := by decide +kernel
theorem dL_law_1032 : decode cL_law 1032 = .ok (.iaload, 1) := by decide +kernel
theorem dL_law_1033 : decode cL_law 1033 = .ok (.invokevirtual 160, 3) := by decide +kernel
theorem dL_law_1036 : decode cL_law 1036 = .ok (.istore 6, 2) := by decide +kernel
theorem dL_law_1038 : decode cL_law 1038 = .ok (.aload_n 2, 1) := by decide +kernel
theorem dL_law_1039 : decode cL_law 1039 = .ok (.invokevirtual 83, 3) := by decide +kernel
theorem dL_law_1042 : decode cL_law 1042 = .ok (.iload 5, 2) := by decide +kernel
theorem dL_law_1044 : decode cL_law 1044 = .ok (.if_icmp .eq 5, 3) := by decide +kernel
theorem dL_law_1047 : decode cL_law 1047 = .ok (.iconst 0, 1) := by decide +kernel
theorem dL_law_1048 : decode cL_law 1048 = .ok (.ireturn, 1) := by decide +kernel
theorem dL_law_1049 : decode cL_law 1049 = .ok (.iload 5, 2) := by decide +kernel
theorem dL_law_1051 : decode cL_law 1051 = .ok (.ifCond .ne 15, 3) := by decide +kernel
theorem dL_law_1054 : decode cL_law 1054 = .ok (.aload_n 3, 1) := by decide +kernel
theorem dL_law_1055 : decode cL_law 1055 = .ok (.iconst 0, 1) := by decide +kernel
theorem dL_law_1056 : decode cL_law 1056 = .ok (.laload, 1) := by decide +kernel
theorem dL_law_1057 : decode cL_law 1057 = .ok (.iload 6, 2) := by decide +kernel
theorem dL_law_1059 : decode cL_law 1059 = .ok (.i2l, 1) := by decide +kernel
theorem dL_law_1060 : decode cL_law 1060 = .ok (.lcmp, 1) := by decide +kernel
theorem dL_law_1061 : decode cL_law 1061 = .ok (.ifCond .eq 5, 3) := by decide +kernel
theorem dL_law_1064 : decode cL_law 1064 = .ok (.iconst 0, 1) := by decide +kernel
theorem dL_law_1065 : decode cL_law 1065 = .ok (.ireturn, 1) := by decide +kernel
theorem dL_law_1066 : decode cL_law 1066 = .ok (.goto 256, 3) := by decide +kernel
theorem dL_law_1069 : decode cL_law 1069 = .ok (.aload_n 1, 1) := by decide +kernel
theorem dL_law_1070 : decode cL_law 1070 = .ok (.aload_n 0, 1) := by decide +kernel
theorem dL_law_1071 : decode cL_law 1071 = .ok (.iload 4, 2) := by decide +kernel
theorem dL_law_1073 : decode cL_law 1073 = .ok (.iconst 1, 1) := by decide +kernel
theorem dL_law_1074 : decode cL_law 1074 = .ok (.iadd, 1) := by decide +kernel
theorem dL_law_1075 : decode cL_law 1075 = .ok (.iaload, 1) := by decide +kernel
theorem dL_law_1076 : decode cL_law 1076 = .ok (.aload_n 0, 1) := by decide +kernel
theorem dL_law_1077 : decode cL_law 1077 = .ok (.iload 4, 2) := by decide +kernel
theorem dL_law_1079 : decode cL_law 1079 = .ok (.iconst 2, 1) := by decide +kernel
theorem dL_law_1080 : decode cL_law 1080 = .ok (.iadd, 1) := by decide +kernel
theorem dL_law_1081 : decode cL_law 1081 = .ok (.iaload, 1) := by decide +kernel
theorem dL_law_1082 : decode cL_law 1082 = .ok (.aload_n 0, 1) := by decide +kernel
theorem dL_law_1083 : decode cL_law 1083 = .ok (.iload 4, 2) := by decide +kernel
theorem dL_law_1085 : decode cL_law 1085 = .ok (.iconst 3, 1) := by decide +kernel
theorem dL_law_1086 : decode cL_law 1086 = .ok (.iadd, 1) := by decide +kernel
theorem dL_law_1087 : decode cL_law 1087 = .ok (.iaload, 1) := by decide +kernel
theorem dL_law_1088 : decode cL_law 1088 = .ok (.aload_n 0, 1) := by decide +kernel
theorem dL_law_1089 : decode cL_law 1089 = .ok (.iload 4, 2) := by decide +kernel
theorem dL_law_1091 : decode cL_law 1091 = .ok (.iconst 4, 1) := by decide +kernel
theorem dL_law_1092 : decode cL_law 1092 = .ok (.iadd, 1) := by decide +kernel
theorem dL_law_1093 : decode cL_law 1093 = .ok (.iaload, 1) := by decide +kernel
theorem dL_law_1094 : decode cL_law 1094 = .ok (.invokestatic 161, 3) := by decide +kernel
theorem dL_law_1097 : decode cL_law 1097 = .ok (.istore 5, 2) := by decide +kernel
theorem dL_law_1099 : decode cL_law 1099 = .ok (.aload_n 2, 1) := by decide +kernel
theorem dL_law_1100 : decode cL_law 1100 = .ok (.aload_n 0, 1) := by decide +kernel
theorem dL_law_1101 : decode cL_law 1101 = .ok (.iload 4, 2) := by decide +kernel
theorem dL_law_1103 : decode cL_law 1103 = .ok (.iconst 1, 1) := by decide +kernel
theorem dL_law_1104 : decode cL_law 1104 = .ok (.iadd, 1) := by decide +kernel
theorem dL_law_1105 : decode cL_law 1105 = .ok (.iaload, 1) := by decide +kernel
theorem dL_law_1106 : decode cL_law 1106 = .ok (.aload_n 0, 1) := by decide +kernel
theorem dL_law_1107 : decode cL_law 1107 = .ok (.iload 4, 2) := by decide +kernel
theorem dL_law_1109 : decode cL_law 1109 = .ok (.iconst 2, 1) := by decide +kernel
theorem dL_law_1110 : decode cL_law 1110 = .ok (.iadd, 1) := by decide +kernel
theorem dL_law_1111 : decode cL_law 1111 = .ok (.iaload, 1) := by decide +kernel
theorem dL_law_1112 : decode cL_law 1112 = .ok (.aload_n 0, 1) := by decide +kernel
theorem dL_law_1113 : decode cL_law 1113 = .ok (.iload 4, 2) := by decide +kernel
theorem dL_law_1115 : decode cL_law 1115 = .ok (.iconst 3, 1) := by decide +kernel
theorem dL_law_1116 : decode cL_law 1116 = .ok (.iadd, 1) := by decide +kernel
theorem dL_law_1117 : decode cL_law 1117 = .ok (.iaload, 1) := by decide +kernel
theorem dL_law_1118 : decode cL_law 1118 = .ok (.aload_n 0, 1) := by decide +kernel
theorem dL_law_1119 : decode cL_law 1119 = .ok (.iload 4, 2) := by decide +kernel
theorem dL_law_1121 : decode cL_law 1121 = .ok (.iconst 4, 1) := by decide +kernel
theorem dL_law_1122 : decode cL_law 1122 = .ok (.iadd, 1) := by decide +kernel
theorem dL_law_1123 : decode cL_law 1123 = .ok (.iaload, 1) := by decide +kernel
theorem dL_law_1124 : decode cL_law 1124 = .ok (.invokevirtual 164, 3) := by decide +kernel
theorem dL_law_1127 : decode cL_law 1127 = .ok (.aload_n 2, 1) := by decide +kernel
theorem dL_law_1128 : decode cL_law 1128 = .ok (.invokevirtual 83, 3) := by decide +kernel
theorem dL_law_1131 : decode cL_law 1131 = .ok (.iload 5, 2) := by decide +kernel
theorem dL_law_1133 : decode cL_law 1133 = .ok (.if_icmp .eq 5, 3) := by decide +kernel
theorem dL_law_1136 : decode cL_law 1136 = .ok (.iconst 0, 1) := by decide +kernel
theorem dL_law_1137 : decode cL_law 1137 = .ok (.ireturn, 1) := by decide +kernel
theorem dL_law_1138 : decode cL_law 1138 = .ok (.goto 184, 3) := by decide +kernel
theorem dL_law_1141 : decode cL_law 1141 = .ok (.aload_n 1, 1) := by decide +kernel
theorem dL_law_1142 : decode cL_law 1142 = .ok (.aload_n 0, 1) := by decide +kernel
theorem dL_law_1143 : decode cL_law 1143 = .ok (.iload 4, 2) := by decide +kernel
theorem dL_law_1145 : decode cL_law 1145 = .ok (.iconst 1, 1) := by decide +kernel
theorem dL_law_1146 : decode cL_law 1146 = .ok (.iadd, 1) := by decide +kernel
theorem dL_law_1147 : decode cL_law 1147 = .ok (.iaload, 1) := by decide +kernel
theorem dL_law_1148 : decode cL_law 1148 = .ok (.aload_n 3, 1) := by decide +kernel
theorem dL_law_1149 : decode cL_law 1149 = .ok (.invokestatic 165, 3) := by decide +kernel
theorem dL_law_1152 : decode cL_law 1152 = .ok (.istore 5, 2) := by decide +kernel
theorem dL_law_1154 : decode cL_law 1154 = .ok (.aload_n 2, 1) := by decide +kernel
theorem dL_law_1155 : decode cL_law 1155 = .ok (.aload_n 0, 1) := by decide +kernel
theorem dL_law_1156 : decode cL_law 1156 = .ok (.iload 4, 2) := by decide +kernel
theorem dL_law_1158 : decode cL_law 1158 = .ok (.iconst 1, 1) := by decide +kernel
theorem dL_law_1159 : decode cL_law 1159 = .ok (.iadd, 1) := by decide +kernel
theorem dL_law_1160 : decode cL_law 1160 = .ok (.iaload, 1) := by decide +kernel
theorem dL_law_1161 : decode cL_law 1161 = .ok (.invokevirtual 167, 3) := by decide +kernel
theorem dL_law_1164 : decode cL_law 1164 = .ok (.istore 6, 2) := by decide +kernel
theorem dL_law_1166 : decode cL_law 1166 = .ok (.aload_n 2, 1) := by decide +kernel
theorem dL_law_1167 : decode cL_law 1167 = .ok (.invokevirtual 83, 3) := by decide +kernel
theorem dL_law_1170 : decode cL_law 1170 = .ok (.iload 5, 2) := by decide +kernel
theorem dL_law_1172 : decode cL_law 1172 = .ok (.if_icmp .eq 5, 3) := by decide +kernel
theorem dL_law_1175 : decode cL_law 1175 = .ok (.iconst 0, 1) := by decide +kernel
theorem dL_law_1176 : decode cL_law 1176 = .ok (.ireturn, 1) := by decide +kernel
theorem dL_law_1177 : decode cL_law 1177 = .ok (.iload 5, 2) := by decide +kernel
theorem dL_law_1179 : decode cL_law 1179 = .ok (.ifCond .ne 15, 3) := by decide +kernel
theorem dL_law_1182 : decode cL_law 1182 = .ok (.aload_n 3, 1) := by decide +kernel
theorem dL_law_1183 : decode cL_law 1183 = .ok (.iconst 0, 1) := by decide +kernel
theorem dL_law_1184 : decode cL_law 1184 = .ok (.laload, 1) := by decide +kernel
theorem dL_law_1185 : decode cL_law 1185 = .ok (.iload 6, 2) := by decide +kernel
theorem dL_law_1187 : decode cL_law 1187 = .ok (.i2l, 1) := by decide +kernel
theorem dL_law_1188 : decode cL_law 1188 = .ok (.lcmp, 1) := by decide +kernel
theorem dL_law_1189 : decode cL_law 1189 = .ok (.ifCond .eq 5, 3) := by decide +kernel
theorem dL_law_1192 : decode cL_law 1192 = .ok (.iconst 0, 1) := by decide +kernel
theorem dL_law_1193 : decode cL_law 1193 = .ok (.ireturn, 1) := by decide +kernel
theorem dL_law_1194 : decode cL_law 1194 = .ok (.goto 128, 3) := by decide +kernel
theorem dL_law_1197 : decode cL_law 1197 = .ok (.aload_n 1, 1) := by decide +kernel
theorem dL_law_1198 : decode cL_law 1198 = .ok (.aload_n 0, 1) := by decide +kernel
theorem dL_law_1199 : decode cL_law 1199 = .ok (.iload 4, 2) := by decide +kernel
theorem dL_law_1201 : decode cL_law 1201 = .ok (.iconst 1, 1) := by decide +kernel
theorem dL_law_1202 : decode cL_law 1202 = .ok (.iadd, 1) := by decide +kernel
theorem dL_law_1203 : decode cL_law 1203 = .ok (.iaload, 1) := by decide +kernel
theorem dL_law_1204 : decode cL_law 1204 = .ok (.aload_n 3, 1) := by decide +kernel
theorem dL_law_1205 : decode cL_law 1205 = .ok (.invokestatic 168, 3) := by decide +kernel
theorem dL_law_1208 : decode cL_law 1208 = .ok (.istore 5, 2) := by decide +kernel
theorem dL_law_1210 : decode cL_law 1210 = .ok (.aload_n 2, 1) := by decide +kernel
theorem dL_law_1211 : decode cL_law 1211 = .ok (.aload_n 0, 1) := by decide +kernel
theorem dL_law_1212 : decode cL_law 1212 = .ok (.iload 4, 2) := by decide +kernel
theorem dL_law_1214 : decode cL_law 1214 = .ok (.iconst 1, 1) := by decide +kernel
theorem dL_law_1215 : decode cL_law 1215 = .ok (.iadd, 1) := by decide +kernel
theorem dL_law_1216 : decode cL_law 1216 = .ok (.iaload, 1) := by decide +kernel
theorem dL_law_1217 : decode cL_law 1217 = .ok (.invokevirtual 170, 3) := by decide +kernel
theorem dL_law_1220 : decode cL_law 1220 = .ok (.istore 6, 2) := by decide +kernel
theorem dL_law_1222 : decode cL_law 1222 = .ok (.aload_n 2, 1) := by decide +kernel
theorem dL_law_1223 : decode cL_law 1223 = .ok (.invokevirtual 83, 3) := by decide +kernel
theorem dL_law_1226 : decode cL_law 1226 = .ok (.iload 5, 2) := by decide +kernel
theorem dL_law_1228 : decode cL_law 1228 = .ok (.if_icmp .eq 5, 3) := by decide +kernel
theorem dL_law_1231 : decode cL_law 1231 = .ok (.iconst 0, 1) := by decide +kernel
theorem dL_law_1232 : decode cL_law 1232 = .ok (.ireturn, 1) := by decide +kernel
theorem dL_law_1233 : decode cL_law 1233 = .ok (.iload 5, 2) := by decide +kernel
theorem dL_law_1235 : decode cL_law 1235 = .ok (.ifCond .ne 15, 3) := by decide +kernel
theorem dL_law_1238 : decode cL_law 1238 = .ok (.aload_n 3, 1) := by decide +kernel
theorem dL_law_1239 : decode cL_law 1239 = .ok (.iconst 0, 1) := by decide +kernel
theorem dL_law_1240 : decode cL_law 1240 = .ok (.laload, 1) := by decide +kernel
theorem dL_law_1241 : decode cL_law 1241 = .ok (.iload 6, 2) := by decide +kernel
theorem dL_law_1243 : decode cL_law 1243 = .ok (.i2l, 1) := by decide +kernel
theorem dL_law_1244 : decode cL_law 1244 = .ok (.lcmp, 1) := by decide +kernel
theorem dL_law_1245 : decode cL_law 1245 = .ok (.ifCond .eq 5, 3) := by decide +kernel
theorem dL_law_1248 : decode cL_law 1248 = .ok (.iconst 0, 1) := by decide +kernel
theorem dL_law_1249 : decode cL_law 1249 = .ok (.ireturn, 1) := by decide +kernel
theorem dL_law_1250 : decode cL_law 1250 = .ok (.goto 72, 3) := by decide +kernel
theorem dL_law_1253 : decode cL_law 1253 = .ok (.aload_n 1, 1) := by decide +kernel
theorem dL_law_1254 : decode cL_law 1254 = .ok (.aload_n 0, 1) := by decide +kernel
theorem dL_law_1255 : decode cL_law 1255 = .ok (.iload 4, 2) := by decide +kernel
theorem dL_law_1257 : decode cL_law 1257 = .ok (.iconst 1, 1) := by decide +kernel
theorem dL_law_1258 : decode cL_law 1258 = .ok (.iadd, 1) := by decide +kernel
theorem dL_law_1259 : decode cL_law 1259 = .ok (.iaload, 1) := by decide +kernel
theorem dL_law_1260 : decode cL_law 1260 = .ok (.aload_n 3, 1) := by decide +kernel
theorem dL_law_1261 : decode cL_law 1261 = .ok (.invokestatic 171, 3) := by decide +kernel
theorem dL_law_1264 : decode cL_law 1264 = .ok (.istore 5, 2) := by decide +kernel
theorem dL_law_1266 : decode cL_law 1266 = .ok (.aload_n 2, 1) := by decide +kernel
theorem dL_law_1267 : decode cL_law 1267 = .ok (.aload_n 0, 1) := by decide +kernel
theorem dL_law_1268 : decode cL_law 1268 = .ok (.iload 4, 2) := by decide +kernel
theorem dL_law_1270 : decode cL_law 1270 = .ok (.iconst 1, 1) := by decide +kernel
theorem dL_law_1271 : decode cL_law 1271 = .ok (.iadd, 1) := by decide +kernel
theorem dL_law_1272 : decode cL_law 1272 = .ok (.iaload, 1) := by decide +kernel
theorem dL_law_1273 : decode cL_law 1273 = .ok (.invokevirtual 173, 3) := by decide +kernel
theorem dL_law_1276 : decode cL_law 1276 = .ok (.istore 6, 2) := by decide +kernel
theorem dL_law_1278 : decode cL_law 1278 = .ok (.aload_n 2, 1) := by decide +kernel
theorem dL_law_1279 : decode cL_law 1279 = .ok (.invokevirtual 83, 3) := by decide +kernel
theorem dL_law_1282 : decode cL_law 1282 = .ok (.iload 5, 2) := by decide +kernel
theorem dL_law_1284 : decode cL_law 1284 = .ok (.if_icmp .eq 5, 3) := by decide +kernel
theorem dL_law_1287 : decode cL_law 1287 = .ok (.iconst 0, 1) := by decide +kernel
theorem dL_law_1288 : decode cL_law 1288 = .ok (.ireturn, 1) := by decide +kernel
theorem dL_law_1289 : decode cL_law 1289 = .ok (.iload 5, 2) := by decide +kernel
theorem dL_law_1291 : decode cL_law 1291 = .ok (.ifCond .ne 15, 3) := by decide +kernel
theorem dL_law_1294 : decode cL_law 1294 = .ok (.aload_n 3, 1) := by decide +kernel
theorem dL_law_1295 : decode cL_law 1295 = .ok (.iconst 0, 1) := by decide +kernel
theorem dL_law_1296 : decode cL_law 1296 = .ok (.laload, 1) := by decide +kernel
theorem dL_law_1297 : decode cL_law 1297 = .ok (.iload 6, 2) := by decide +kernel
theorem dL_law_1299 : decode cL_law 1299 = .ok (.i2l, 1) := by decide +kernel
theorem dL_law_1300 : decode cL_law 1300 = .ok (.lcmp, 1) := by decide +kernel
theorem dL_law_1301 : decode cL_law 1301 = .ok (.ifCond .eq 5, 3) := by decide +kernel
theorem dL_law_1304 : decode cL_law 1304 = .ok (.iconst 0, 1) := by decide +kernel
theorem dL_law_1305 : decode cL_law 1305 = .ok (.ireturn, 1) := by decide +kernel
theorem dL_law_1306 : decode cL_law 1306 = .ok (.goto 16, 3) := by decide +kernel
theorem dL_law_1309 : decode cL_law 1309 = .ok (.aload_n 1, 1) := by decide +kernel
theorem dL_law_1310 : decode cL_law 1310 = .ok (.invokevirtual 174, 3) := by decide +kernel
theorem dL_law_1313 : decode cL_law 1313 = .ok (.aload_n 2, 1) := by decide +kernel
theorem dL_law_1314 : decode cL_law 1314 = .ok (.invokevirtual 177, 3) := by decide +kernel
theorem dL_law_1317 : decode cL_law 1317 = .ok (.if_icmp .eq 5, 3) := by decide +kernel
theorem dL_law_1320 : decode cL_law 1320 = .ok (.iconst 0, 1) := by decide +kernel
theorem dL_law_1321 : decode cL_law 1321 = .ok (.ireturn, 1) := by decide +kernel
theorem dL_law_1322 : decode cL_law 1322 = .ok (.iinc 4 5, 3) := by decide +kernel
theorem dL_law_1325 : decode cL_law 1325 = .ok (.goto (-1302), 3) := by decide +kernel
theorem dL_law_1328 : decode cL_law 1328 = .ok (.iconst 1, 1) := by decide +kernel
theorem dL_law_1329 : decode cL_law 1329 = .ok (.ireturn, 1) := by decide +kernel
end
section
abbrev vwCl : List vw_C := [(RX0, TX0, 5), (RX1, TX1, 5), (RX2, TX2, 1), (RX3, TX3, 3), (RX4, TX4, 10), (RX5, TX5, 3), (RX6, TX6, 3), (RX7, TX7, 2), (RX8, TX8, 7), (RX9, TX9, 6), (RX10, TX10, 35)]
/-! ===== the world by numbers: cell k lies at ad k and holds w k ===== -/
def gu {α : Type} (A : Nat → Nat → α) (k j : Nat) (v : α) : Nat → Nat → α := fun k' => if k' = k then (fun j' => if j' = j then v else A k j') else A k'
theorem gu_self {α : Type} (A : Nat → Nat → α) (k j : Nat) (v : α) : gu A k j v k = fun j' => if j' = j then v else A k j' := if_pos rfl
theorem gu_ne {α : Type} (A : Nat → Nat → α) {k k' : Nat} (j : Nat) (v : α) (h : k' ≠ k) : gu A k j v k' = A k' := if_neg h
theorem gu_at {α : Type} (A : Nat → Nat → α) (k j : Nat) (v : α) (k' j' : Nat) : gu A k j v k' j' = if k' = k ∧ j' = j then v else A k' j' := by
  unfold gu
  by_cases h : k' = k
  · subst h
    by_cases h2 : j' = j <;> simp [h2]
  · simp [h]
/-- a whole row of a cell -/
def gr {α : Type} (A : Nat → Nat → α) (k : Nat) (f : Nat → α) : Nat → Nat → α := fun k' => if k' = k then f else A k'
theorem gr_self {α : Type} (A : Nat → Nat → α) (k : Nat) (f : Nat → α) : gr A k f k = f := if_pos rfl
theorem gr_ne {α : Type} (A : Nat → Nat → α) {k k' : Nat} (f : Nat → α) (h : k' ≠ k) : gr A k f k' = A k' := if_neg h
theorem gu_gr {α : Type} (A : Nat → Nat → α) (k j : Nat) (v : α) : gu A k j v = gr A k (fun j' => if j' = j then v else A k j') := rfl
def gl (ad : Nat → Nat) (N : Nat) (w : Nat → va_E) : va_W := (List.range N).map fun k => (ad k, w k)
theorem gl_at {ad : Nat → Nat} {N : Nat} {w : Nat → va_E} {k : Nat} (h : k < N) : (gl ad N w)[k]? = some (ad k, w k) := by
  unfold gl
  rw [List.getElem?_map, List.getElem?_range h]
  rfl
theorem gl_ext {ad ad' : Nat → Nat} {N : Nat} {w w' : Nat → va_E} (h : ∀ k, k < N → ad k = ad' k) (h2 : ∀ k, k < N → w k = w' k) : gl ad N w = gl ad' N w' := by
  unfold gl
  refine List.map_congr_left fun k hk => ?_
  rw [h k (List.mem_range.mp hk), h2 k (List.mem_range.mp hk)]
theorem gl_set {ad : Nat → Nat} {N : Nat} {w : Nat → va_E} {k : Nat} (e : va_E) (h : k < N) : (gl ad N w).set k (ad k, e) = gl ad N (va_up w k e) := by
  refine List.ext_getElem? fun i => ?_
  by_cases hi : i < N
  · rw [gl_at hi]
    by_cases hk : i = k
    · subst hk
      rw [List.getElem?_set_self (by unfold gl; simpa using h), va_up_self]
    · rw [List.getElem?_set_ne (Ne.symm hk), gl_at hi, va_up_ne _ _ hk]
  · rw [List.getElem?_eq_none (by unfold gl; simp; omega), List.getElem?_eq_none (by unfold gl; simp; omega)]
theorem gl_push (ad : Nat → Nat) (N : Nat) (w : Nat → va_E) (q : Nat) (e : va_E) : gl ad N w ++ [(q, e)] = gl (va_up ad N q) (N + 1) (va_up w N e) := by
  unfold gl
  rw [List.range_succ, List.map_append]
  congr 1
  · refine List.map_congr_left fun k hk => ?_
    have : k ≠ N := Nat.ne_of_lt (List.mem_range.mp hk)
    rw [va_up_ne _ _ this, va_up_ne _ _ this]
  · simp [va_up]
/-- the class numbers of the arrays: int, long, boolean, Derived, Point -/
abbrev gty (cy : Nat → ClassId) : List (ClassId × FieldType) := [(cy 0, .int), (cy 1, .long), (cy 2, .boolean), (cy 3, .object "Commutator$Derived"), (cy 4, .object "Commutator$Point")]
/-- what cell k holds: a its ints, j its longs; n points are there -/
def gC0 (cy : Nat → ClassId) (ad : Nat → Nat) (n : Nat) (k : Nat) (a : Nat → Int32) (j : Nat → Int64) : va_E := match k with
  | 0 => .inr (9, [.ref (ad 1), .ref (ad 4), .ref (ad 6), .ref (ad 7), .ref (ad 9), .ref (ad 10)])
  | 1 => .inr (5, [.ref (ad 2), .int (a 1), .ref (ad 3)])
  | 2 => .inl (cy 4, 12, .inr (.inr (.inr (.inr (fun i => if i < n then some (ad (50 + 2 * i)) else none)))))
  | 3 => .inl (cy 1, 4, .inr (.inl j))
  | 4 => .inr (3, [.ref (ad 5), .int (a 1), .int (a 2)])
  | 5 => .inl (cy 0, 8000, .inl a)
  | 6 => .inr (7, [.int (a 0), .long (j 1)])
  | 7 => .inr (8, [.int (a 0), .int (a 1), .long (j 2), .int (a 3), .int (a 4), .int (a 5), .ref (ad 8)])
  | 8 => .inl (cy 0, 64, .inl a)
  | 9 => .inr (0, [.int (a 0), .int (a 1), .int (a 2), .int (a 3), .int (a 4)])
  | 10 => .inr (2, [.ref (ad 11)])
  | _ => .inl (cy 3, 8, .inr (.inr (.inr (.inr (fun i => if i < 8 then some (ad (12 + 2 * i)) else none)))))
def gC1 (cy : Nat → ClassId) (ad : Nat → Nat) (k : Nat) (a : Nat → Int32) (j : Nat → Int64) : va_E := match k with
  | 28 => .inr (10, [.int (a 0), .ref (ad 29), .ref (ad 30), .ref (ad 31), .ref (ad 32), .ref (ad 33), .ref (ad 34), .ref (ad 35), .ref (ad 36), .int (a 9), .int (a 10), .ref (ad 37), .int (a 12), .ref (ad 38), .int (a 14), .int (a 15), .int (a 16), .int (a 17), .int (a 18), .int (a 19), .int (a 20), .int (a 21), .int (a 22), .int (a 23), .ref (ad 39), .ref (ad 40), .ref (ad 41), .ref (ad 42), .ref (ad 43), .ref (ad 44), .ref (ad 45), .ref (ad 46), .ref (ad 47), .ref (ad 48), .int (a 34)])
  | 36 => .inl (cy 0, 24, .inl a)
  | 37 => .inl (cy 0, 8000, .inl a)
  | 38 => .inl (cy 0, 8000, .inl a)
  | 43 => .inl (cy 0, 8, .inl a)
  | 44 => .inl (cy 0, 8, .inl a)
  | 45 => .inl (cy 0, 8, .inl a)
  | 46 => .inl (cy 2, 8, .inl a)
  | 47 => .inl (cy 0, 8, .inl a)
  | 48 => .inl (cy 0, 8, .inl a)
  | 49 => .inl (cy 1, 1, .inr (.inl j))
  | _ => .inl (cy 0, 12, .inl a)
def gPt (ad : Nat → Nat) (k : Nat) (a : Nat → Int32) : va_E := .inr (4, [.int (a 0), .int (a 1), .int (a 2), .int (a 3), .int (a 4), .int (a 5), .int (a 6), .ref (ad (k + 1)), .int (a 8), .int (a 9)])
def gRd (a : Nat → Int32) : va_E := .inr (6, [.int (a 0), .int (a 1), .int (a 2)])
def gDv (ad : Nat → Nat) (k : Nat) (a : Nat → Int32) : va_E := .inr (1, [.int (a 0), .int (a 1), .int (a 2), .int (a 3), .ref (ad (k + 1))])
def gC (cy : Nat → ClassId) (ad : Nat → Nat) (n : Nat) (k : Nat) (a : Nat → Int32) (j : Nat → Int64) : va_E :=
  if k < 12 then gC0 cy ad n k a j else if k < 28 then (if k % 2 = 0 then gDv ad k a else gRd a) else if k < 50 then gC1 cy ad k a j else (if k % 2 = 0 then gPt ad k a else gRd a)
def gw (cy : Nat → ClassId) (ad : Nat → Nat) (n : Nat) (A : Nat → Nat → Int32) (J : Nat → Nat → Int64) : Nat → va_E := fun k => gC cy ad n k (A k) (J k)
theorem gC_pt (cy : Nat → ClassId) (ad : Nat → Nat) (n i : Nat) (a : Nat → Int32) (j : Nat → Int64) : gC cy ad n (50 + 2 * i) a j = gPt ad (50 + 2 * i) a := by
  unfold gC
  rw [if_neg (by omega), if_neg (by omega), if_neg (by omega), if_pos (by omega)]
theorem gC_rp (cy : Nat → ClassId) (ad : Nat → Nat) (n i : Nat) (a : Nat → Int32) (j : Nat → Int64) : gC cy ad n (50 + 2 * i + 1) a j = gRd a := by
  unfold gC
  rw [if_neg (by omega), if_neg (by omega), if_neg (by omega), if_neg (by omega)]
theorem gC_dv (cy : Nat → ClassId) (ad : Nat → Nat) (n : Nat) {i : Nat} (h : i < 8) (a : Nat → Int32) (j : Nat → Int64) : gC cy ad n (12 + 2 * i) a j = gDv ad (12 + 2 * i) a := by
  unfold gC
  rw [if_neg (by omega), if_pos (by omega), if_pos (by omega)]
theorem gw_pt (cy : Nat → ClassId) (ad : Nat → Nat) (n : Nat) (A : Nat → Nat → Int32) (J : Nat → Nat → Int64) (i : Nat) : gw cy ad n A J (50 + 2 * i) = gPt ad (50 + 2 * i) (A (50 + 2 * i)) := by
  unfold gw gC
  rw [if_neg (by omega), if_neg (by omega), if_neg (by omega), if_pos (by omega)]
theorem gw_rp (cy : Nat → ClassId) (ad : Nat → Nat) (n : Nat) (A : Nat → Nat → Int32) (J : Nat → Nat → Int64) (i : Nat) : gw cy ad n A J (50 + 2 * i + 1) = gRd (A (50 + 2 * i + 1)) := by
  unfold gw gC
  rw [if_neg (by omega), if_neg (by omega), if_neg (by omega), if_neg (by omega)]
theorem gw_dv (cy : Nat → ClassId) (ad : Nat → Nat) (n : Nat) (A : Nat → Nat → Int32) (J : Nat → Nat → Int64) {i : Nat} (h : i < 8) : gw cy ad n A J (12 + 2 * i) = gDv ad (12 + 2 * i) (A (12 + 2 * i)) := by
  unfold gw gC
  rw [if_neg (by omega), if_pos (by omega), if_pos (by omega)]
theorem gw_rd (cy : Nat → ClassId) (ad : Nat → Nat) (n : Nat) (A : Nat → Nat → Int32) (J : Nat → Nat → Int64) {i : Nat} (h : i < 8) : gw cy ad n A J (12 + 2 * i + 1) = gRd (A (12 + 2 * i + 1)) := by
  unfold gw gC
  rw [if_neg (by omega), if_pos (by omega), if_neg (by omega)]
/-- a cell that is a reading -/
def gIsR (n k : Nat) : Prop := k < 50 + 2 * n ∧ k % 2 = 1 ∧ ((12 ≤ k ∧ k < 28) ∨ 50 ≤ k)
theorem gC_r {n k : Nat} (h : gIsR n k) (cy : Nat → ClassId) (ad : Nat → Nat) (a : Nat → Int32) (j : Nat → Int64) : gC cy ad n k a j = gRd a := by
  unfold gC
  obtain ⟨-, h2, h3⟩ := h
  rcases h3 with h3 | h3
  · rw [if_neg (by omega), if_pos (by omega), if_neg (by omega)]
  · rw [if_neg (by omega), if_neg (by omega), if_neg (by omega), if_neg (by omega)]
theorem gw_r {cy : Nat → ClassId} {ad : Nat → Nat} {n : Nat} {A : Nat → Nat → Int32} {J : Nat → Nat → Int64} {k : Nat} (h : gIsR n k) : gw cy ad n A J k = gRd (A k) := by
  unfold gw gC
  obtain ⟨-, h2, h3⟩ := h
  rcases h3 with h3 | h3
  · rw [if_neg (by omega), if_pos (by omega), if_neg (by omega)]
  · rw [if_neg (by omega), if_neg (by omega), if_neg (by omega), if_neg (by omega)]
/-- one cell's row of ints changes, nothing else -/
theorem gw_row {cy : Nat → ClassId} {ad : Nat → Nat} {n : Nat} {A : Nat → Nat → Int32} {J : Nat → Nat → Int64} {k : Nat} {f : Nat → Int32} {e : va_E} (h : gC cy ad n k f (J k) = e) : ∀ q, va_up (gw cy ad n A J) k e q = gw cy ad n (gr A k f) J q := by
  intro q
  by_cases hq : q = k
  · subst hq
    rw [va_up_self]
    unfold gw
    rw [gr_self, h]
  · rw [va_up_ne _ _ hq]
    unfold gw
    rw [gr_ne _ _ hq]
theorem gw_rowJ {cy : Nat → ClassId} {ad : Nat → Nat} {n : Nat} {A : Nat → Nat → Int32} {J : Nat → Nat → Int64} {k : Nat} {f : Nat → Int64} {e : va_E} (h : gC cy ad n k (A k) f = e) : ∀ q, va_up (gw cy ad n A J) k e q = gw cy ad n A (gr J k f) q := by
  intro q
  by_cases hq : q = k
  · subst hq
    rw [va_up_self]
    unfold gw
    rw [gr_self, h]
  · rw [va_up_ne _ _ hq]
    unfold gw
    rw [gr_ne _ _ hq]
/-- the heap holds the world w of N cells; what was before base is as it was -/
def gH (D : va_G) (base : Nat) (s : State) (ad : Nat → Nat) (N : Nat) (w : Nat → va_E) (H : Heap) (locs : List Loc) : Prop := va_P D vwCl (gl ad N w) H ∧ va_D (fun q => base ≤ q) (gl ad N w) ∧ va_S (fun q => base ≤ q) s.heap H locs
theorem gH.to {D : va_G} {base : Nat} {s : State} {ad : Nat → Nat} {N : Nat} {w w' : Nat → va_E} {H : Heap} {locs : List Loc} (h : gH D base s ad N w H locs) (e : ∀ k, w k = w' k) : gH D base s ad N w' H locs := by
  have : w = w' := funext e
  subst this
  exact h
/-- what every method is given: the classes, the words on the nest, what the throws need -/
def gnest : List Cond := [.methodLinkNest "Commutator" 9 ⟨"Commutator$PointTable", "<init>", "()V"⟩ "Commutator", .fieldLinkNest "Commutator" 68 "Commutator$PointTable" "count" "I" "Commutator", .fieldLinkNest "Commutator$Sender" 30 "Commutator$PointTable" "count" "I" "Commutator", .fieldLinkNest "Commutator$Decoder" 35 "Commutator$PointTable" "count" "I" "Commutator", .methodLinkNest "Commutator" 18 ⟨"Commutator$Line", "<init>", "()V"⟩ "Commutator", .methodLinkNest "Commutator" 25 ⟨"Commutator$Sender", "<init>", "()V"⟩ "Commutator", .fieldLinkNest "Commutator" 58 "Commutator$Sender" "wordsSent" "I" "Commutator", .methodLinkNest "Commutator" 32 ⟨"Commutator$Synchroniser", "<init>", "()V"⟩ "Commutator", .fieldLinkNest "Commutator" 145 "Commutator$Synchroniser" "mode" "I" "Commutator", .fieldLinkNest "Commutator" 148 "Commutator$Synchroniser" "takenBits" "I" "Commutator", .fieldLinkNest "Commutator" 137 "Commutator$Synchroniser" "latest" "J" "Commutator", .methodLinkNest "Commutator" 39 ⟨"Commutator$Decoder", "<init>", "()V"⟩ "Commutator", .fieldLinkNest "Commutator" 121 "Commutator$Decoder" "usedFrames" "I" "Commutator", .fieldLinkNest "Commutator" 151 "Commutator$Decoder" "lostFrames" "I" "Commutator", .fieldLinkNest "Commutator" 154 "Commutator$Decoder" "repeatedFrames" "I" "Commutator", .fieldLinkNest "Commutator" 160 "Commutator$Decoder" "latestNumber" "I" "Commutator", .methodLinkNest "Commutator$DerivedTable" 17 ⟨"Commutator$Derived", "<init>", "()V"⟩ "Commutator", .methodLinkNest "Commutator$Derived" 9 ⟨"Commutator$Reading", "<init>", "()V"⟩ "Commutator", .fieldLinkNest "Commutator$DerivedTable" 56 "Commutator$Reading" "known" "Z" "Commutator", .fieldLinkNest "Commutator" 208 "Commutator$Reading" "known" "Z" "Commutator", .fieldLinkNest "Commutator$Derived" 20 "Commutator$Reading" "amount" "I" "Commutator", .fieldLinkNest "Commutator" 167 "Commutator$Reading" "amount" "I" "Commutator", .fieldLinkNest "Commutator$Derived" 36 "Commutator$Reading" "moment" "I" "Commutator", .fieldLinkNest "Commutator" 172 "Commutator$Reading" "moment" "I" "Commutator", .fieldLinkNest "Commutator$DerivedTable" 22 "Commutator$Derived" "defined" "Z" "Commutator", .fieldLinkNest "Commutator$DerivedTable" 26 "Commutator$Derived" "operation" "I" "Commutator", .fieldLinkNest "Commutator$DerivedTable" 30 "Commutator$Derived" "first" "I" "Commutator", .fieldLinkNest "Commutator$DerivedTable" 33 "Commutator$Derived" "second" "I" "Commutator", .fieldLinkNest "Commutator$DerivedTable" 43 "Commutator$Derived" "result" "LCommutator$Reading;" "Commutator", .methodLinkNest "Commutator$Point" 33 ⟨"Commutator$Reading", "<init>", "()V"⟩ "Commutator", .fieldLinkNest "Commutator" 75 "Commutator$Point" "phase" "I" "Commutator", .fieldLinkNest "Commutator" 80 "Commutator$Point" "offset" "I" "Commutator", .fieldLinkNest "Commutator$Sender" 53 "Commutator$Point" "present" "I" "Commutator", .fieldLinkNest "Commutator" 93 "Commutator$Point" "present" "I" "Commutator", .fieldLinkNest "Commutator$DerivedTable" 72 "Commutator$Point" "latest" "LCommutator$Reading;" "Commutator", .fieldLinkNest "Commutator" 205 "Commutator$Point" "latest" "LCommutator$Reading;" "Commutator", .fieldLinkNest "Commutator" 175 "Commutator$Point" "sampleCount" "I" "Commutator", .fieldLinkNest "Commutator" 178 "Commutator$Point" "missingCount" "I" "Commutator"]
def gisN (w : Cond) : Bool := match w with
  | .fieldLinkNest _ _ _ _ _ _ => true
  | .methodLinkNest _ _ _ _ => true
  | _ => false
theorem gnest_is : ∀ w ∈ gnest, gisN w = true := by decide +kernel
theorem gnest_tbl : ∀ w ∈ gnest, w ∈ lw_tbl := by decide +kernel
def gE (D : va_G) (cy : Nat → ClassId) (base : Nat) (U : State) : Prop := va_K D vwCl (gty cy) U ∧ (∀ w ∈ gnest, va_Nw w U) ∧ base ≤ U.heap.size ∧ vx_Zq Bundle.tN "UNASSIGNED_STACK" Bundle.steD (fun q => base ≤ q) U U.heap ∧ vx_Zq Bundle.tN "SUPPRESSED_SENTINEL" Bundle.listD (fun q => base ≤ q) U U.heap
theorem gnest_warm {s U : State} (hW : s.WarmedH U.vm) {w : Cond} (hw : w ∈ gnest) (h : va_Nw w s) : va_Nw w U := by
  have h2 := gnest_is w hw
  cases w <;> first | exact va_Nw.warmF hW h | exact va_Nw.warmM hW h | (simp [gisN] at h2)
theorem gnest_tabs {w : Cond} (hw : w ∈ gnest) : w.onTables = true := by
  have h2 := gnest_is w hw
  cases w <;> first | rfl | (simp [gisN] at h2)
theorem gE.warm {D : va_G} {cy : Nat → ClassId} {base : Nat} {s U : State} {H : Heap} {locs : List Loc} (h : gE D cy base s) (hS : va_S (fun q => base ≤ q) s.heap H locs) (hU : U.heap = H) (hW : s.WarmedH U.vm) : gE D cy base U := by
  obtain ⟨h1, h2, h3, h4, h5⟩ := h
  refine ⟨h1.moved hW.alike, fun w hw => gnest_warm hW hw (h2 w hw), ?_, ?_, ?_⟩
  · rw [hU]; exact Nat.le_trans h3 hS.1
  · rw [hU]; exact (h4.moved hW.alike).kept (fun a ha hn => hS.2.1 a ha hn)
  · rw [hU]; exact (h5.moved hW.alike).kept (fun a ha hn => hS.2.1 a ha hn)
theorem gE.blind {D : va_G} {cy : Nat → ClassId} {base : Nat} {U : State} {g : JFrame} {mk : MethodId} {a : Array Value} (h : gE D cy base U) : gE D cy base (U.calling g mk a) := by
  obtain ⟨h1, h2, h3, h4, h5⟩ := h
  exact ⟨h1.moved (u := U) (U := U.calling g mk a) (Vm.Alike.refl U.vm), fun w hw => va_Nw.same (gnest_tabs hw) (u := U) (U := U.calling g mk a) rfl (h2 w hw), h3, h4.moved (u := U) (U := U.calling g mk a) (Vm.Alike.refl U.vm), h5.moved (u := U) (U := U.calling g mk a) (Vm.Alike.refl U.vm)⟩
abbrev gS : Type := (Nat → Nat → Int32) × (Nat → Nat → Int64)
def gQc {S : Type} (post : Option Value → S → Prop) (B : S → State → Prop) (A : Nat → Prop) : Array Value → State → Outcome → State → Prop := fun _ st oc t => (∃ (v : Option Value) (u : S), oc = .returned v ∧ post v u ∧ B u t) ∧ va_F A st t
/-- the start of a method: its arguments, the world -/
def gPre (D : va_G) (cy : Nat → ClassId) (base : Nat) (ad : Nat → Nat) (N : Nat) (w : Nat → va_E) (av : List Value) : Array Value → State → Prop := va_Pc av (fun U => gE D cy base U ∧ va_P D vwCl (gl ad N w) U.heap ∧ va_D (fun q => base ≤ q) (gl ad N w))
/-- its end: the same cells -/
def gPost (D : va_G) (cy : Nat → ClassId) (base : Nat) (ad : Nat → Nat) (n : Nat) (post : Option Value → (Nat → Nat → Int32) → (Nat → Nat → Int64) → Prop) : Array Value → State → Outcome → State → Prop := gQc (S := gS) (fun v u => post v u.1 u.2) (fun u t => va_P D vwCl (gl ad (50 + 2 * n) (gw cy ad n u.1 u.2)) t.heap) (fun q => base ≤ q)
abbrev gMet (l : Launch) (y : MethodName) (ws : List Cond) (rm : Room) (D : va_G) (cy : Nat → ClassId) (base : Nat) (ad : Nat → Nat) (n : Nat) (A : Nat → Nat → Int32) (J : Nat → Nat → Int64) (av : List Value) (post : Option Value → (Nat → Nat → Int32) → (Nat → Nat → Int64) → Prop) : Prop :=
  Met l y ws rm (gPre D cy base ad (50 + 2 * n) (gw cy ad n A J) av) (gPost D cy base ad n post) 0 0 (fun q => base ≤ q)
theorem gPre.blind {D : va_G} {cy : Nat → ClassId} {base : Nat} {ad : Nat → Nat} {N : Nat} {w : Nat → va_E} {av : List Value} : FrameBlind (gPre D cy base ad N w av) := fun a U g mk h => ⟨h.1, h.2.1.blind, h.2.2.1, h.2.2.2⟩
theorem gl_D {A : Nat → Prop} {ad : Nat → Nat} {N : Nat} {w w' : Nat → va_E} (h : va_D A (gl ad N w)) : va_D A (gl ad N w') := by
  have key : ∀ (k : Nat) (q : Nat × va_E), (gl ad N w')[k]? = some q → k < N ∧ q.1 = ad k := by
    intro k q hk
    by_cases hN : k < N
    · rw [gl_at hN] at hk
      cases hk
      exact ⟨hN, rfl⟩
    · rw [List.getElem?_eq_none (by unfold gl; simp; omega)] at hk
      cases hk
  refine ⟨fun i j p q hi hj hpq => ?_, fun k q hk => ?_⟩
  · obtain ⟨a1, a2⟩ := key i p hi
    obtain ⟨b1, b2⟩ := key j q hj
    exact h.1 i j _ _ (gl_at a1) (gl_at b1) (by show ad i = ad j; rw [← a2, ← b2, hpq])
  · obtain ⟨a1, a2⟩ := key k q hk
    rw [a2]
    exact h.2 k _ (gl_at a1)
end
section
/-! ===== rows over the numbered world ===== -/
section GR
variable {p : Program} {l : Launch} {e : Env} {R : Room} {s : State} {m : MethodId} {args : Array Value} {below : List Frame} {meth : Method} {c : Code} {H : Heap} {locs : List Loc} {cells slots : Nat} {Q : State → Prop}
variable {cc : ByteArray} {pc : Nat} {ls : Array Slot} {rest : List Value} {D : va_G} {cy : Nat → ClassId} {base : Nat} {ad : Nat → Nat} {N n : Nat} {w : Nat → va_E} {A : Nat → Nat → Int32} {J : Nat → Nat → Int64}
theorem g_get (hx : p.tables.exec = Jvm.exec) (hb : c.code = cc) {own C : String} {T : u_T} {NN ci index : Nat} {Ts : List Cond} (hts : ∀ w ∈ Ts, w.before args s = true) (hin : ∀ w ∈ u_ws C T NN, w ∈ Ts) (hown : s.vm.findClass own = some m.cls) (hE : gE D cy base s) (hG : gH D base s ad N w H locs) {k : Nat} (hk : k < N) {fs : List Value} (he : w k = .inr (ci, fs)) (hc : vwCl[ci]? = some (C, T, NN)) (j : Nat) (hj : j < NN) (hlink : (Cond.fieldLink own index C (T j).2.1 (T j).2.2.1).before args s = true) (hsame : (T j).1 = C) {v : Value} (hv : fs[j]? = some v) (hdg : decode cc pc = .ok (.getfield index, 3))
    (kk : W p l e R s m args below meth c H locs cells slots Q (F0 m (pc + 3) ls (v :: rest))) : W p l e R s m args below meth c H locs cells slots Q (F0 m pc ls (.ref (ad k) :: rest)) :=
  va_get hx hb hts hin hown hE.1 hG.1 k (by rw [gl_at hk, he]) hc j hj hlink (fun x h => by rw [hsame] at h; exact h) hv hdg kk
theorem g_getN (hx : p.tables.exec = Jvm.exec) (hb : c.code = cc) {own C host : String} {T : u_T} {NN ci index : Nat} {Ts : List Cond} (hts : ∀ w ∈ Ts, w.before args s = true) (hin : ∀ w ∈ u_ws C T NN, w ∈ Ts) (hown : s.vm.findClass own = some m.cls) (hE : gE D cy base s) (hG : gH D base s ad N w H locs) {k : Nat} (hk : k < N) {fs : List Value} (he : w k = .inr (ci, fs)) (hc : vwCl[ci]? = some (C, T, NN)) (j : Nat) (hj : j < NN) (i : Nat) (hnest : gnest[i]? = some (.fieldLinkNest own index C (T j).2.1 (T j).2.2.1 host)) (hsame : (T j).1 = C) {v : Value} (hv : fs[j]? = some v) (hdg : decode cc pc = .ok (.getfield index, 3))
    (kk : W p l e R s m args below meth c H locs cells slots Q (F0 m (pc + 3) ls (v :: rest))) : W p l e R s m args below meth c H locs cells slots Q (F0 m pc ls (.ref (ad k) :: rest)) :=
  va_getN hx hb hts hin hown hE.1 hG.1 k (by rw [gl_at hk, he]) hc j hj (va_Nw.use rfl (hE.2.1 _ (List.mem_of_getElem? hnest))) (fun x h => by rw [hsame] at h; exact h) hv hdg kk
theorem gH_up {k : Nat} {e' : va_E} {H1 : Heap} {locs1 : List Loc} (hk : k < N) (h1 : va_P D vwCl ((gl ad N w).set k (ad k, e')) H1) (h2 : va_D (fun q => base ≤ q) ((gl ad N w).set k (ad k, e'))) (h3 : va_S (fun q => base ≤ q) s.heap H1 locs1) : gH D base s ad N (va_up w k e') H1 locs1 := by
  rw [gl_set e' hk] at h1 h2
  exact ⟨h1, h2, h3⟩
theorem g_put (hx : p.tables.exec = Jvm.exec) (hb : c.code = cc) {own C : String} {T : u_T} {NN ci index : Nat} {Ts : List Cond} (hts : ∀ w ∈ Ts, w.before args s = true) (hin : ∀ w ∈ u_ws C T NN, w ∈ Ts) (ty0 : Nat → FieldType) (hty : ∀ k, k < NN → parseFieldDescriptor (T k).2.2.1 = some (ty0 k)) (hnm : ∀ a, a < NN → ∀ b, b < NN → a ≠ b → (T a).2.1 ≠ (T b).2.1) (hown : s.vm.findClass own = some m.cls) (hE : gE D cy base s) (hG : gH D base s ad N w H locs) {k : Nat} (hk : k < N) {fs : List Value} (he : w k = .inr (ci, fs)) (hc : vwCl[ci]? = some (C, T, NN)) (j : Nat) (hj : j < NN) (hlink : (Cond.fieldLink own index C (T j).2.1 (T j).2.2.1).before args s = true) (hsame : (T j).1 = C) (hfin : (T j).2.2.2 = false) {ty : FieldType} {v : Value} (hd : parseFieldDescriptor (T j).2.2.1 = some ty) (hn : narrow ty v = v) (hfit : fits ty v = true) (hl : j < fs.length)
    (hdg : decode cc pc = .ok (.putfield index, 3)) (kk : ∀ (H : Heap) (locs : List Loc), gH D base s ad N (va_up w k (.inr (ci, fs.set j v))) H locs → W p l e R s m args below meth c H locs cells slots Q (F0 m (pc + 3) ls rest)) : W p l e R s m args below meth c H locs cells slots Q (F0 m pc ls (v :: .ref (ad k) :: rest)) :=
  va_put hx hb hts hin ty0 hty hnm hown hE.1 hG.1 hG.2.1 hG.2.2 k (by rw [gl_at hk, he]) hc j hj hlink (fun x h => by rw [hsame] at h; exact h) hfin hd hn hfit hl hdg (fun H1 locs1 h1 h2 h3 => kk H1 locs1 (gH_up hk h1 h2 h3))
theorem g_putN (hx : p.tables.exec = Jvm.exec) (hb : c.code = cc) {own C host : String} {T : u_T} {NN ci index : Nat} {Ts : List Cond} (hts : ∀ w ∈ Ts, w.before args s = true) (hin : ∀ w ∈ u_ws C T NN, w ∈ Ts) (ty0 : Nat → FieldType) (hty : ∀ k, k < NN → parseFieldDescriptor (T k).2.2.1 = some (ty0 k)) (hnm : ∀ a, a < NN → ∀ b, b < NN → a ≠ b → (T a).2.1 ≠ (T b).2.1) (hown : s.vm.findClass own = some m.cls) (hE : gE D cy base s) (hG : gH D base s ad N w H locs) {k : Nat} (hk : k < N) {fs : List Value} (he : w k = .inr (ci, fs)) (hc : vwCl[ci]? = some (C, T, NN)) (j : Nat) (hj : j < NN) (i : Nat) (hnest : gnest[i]? = some (.fieldLinkNest own index C (T j).2.1 (T j).2.2.1 host)) (hsame : (T j).1 = C) (hfin : (T j).2.2.2 = false) {ty : FieldType} {v : Value} (hd : parseFieldDescriptor (T j).2.2.1 = some ty) (hn : narrow ty v = v) (hfit : fits ty v = true) (hl : j < fs.length)
    (hdg : decode cc pc = .ok (.putfield index, 3)) (kk : ∀ (H : Heap) (locs : List Loc), gH D base s ad N (va_up w k (.inr (ci, fs.set j v))) H locs → W p l e R s m args below meth c H locs cells slots Q (F0 m (pc + 3) ls rest)) : W p l e R s m args below meth c H locs cells slots Q (F0 m pc ls (v :: .ref (ad k) :: rest)) :=
  va_putN hx hb hts hin ty0 hty hnm hown hE.1 hG.1 hG.2.1 hG.2.2 k (by rw [gl_at hk, he]) hc j hj (va_Nw.use rfl (hE.2.1 _ (List.mem_of_getElem? hnest))) (fun x h => by rw [hsame] at h; exact h) hfin hd hn hfit hl hdg (fun H1 locs1 h1 h2 h3 => kk H1 locs1 (gH_up hk h1 h2 h3))
/-- typed: an int field -/
theorem g_puti (hx : p.tables.exec = Jvm.exec) (hb : c.code = cc) {own C : String} {T : u_T} {NN ci index : Nat} {Ts : List Cond} (hts : ∀ w ∈ Ts, w.before args s = true) (hin : ∀ w ∈ u_ws C T NN, w ∈ Ts) (ty0 : Nat → FieldType) (hty : ∀ k, k < NN → parseFieldDescriptor (T k).2.2.1 = some (ty0 k)) (hnm : ∀ a, a < NN → ∀ b, b < NN → a ≠ b → (T a).2.1 ≠ (T b).2.1) (hown : s.vm.findClass own = some m.cls) (hE : gE D cy base s) (hG : gH D base s ad N (gw cy ad n A J) H locs) {k : Nat} (hk : k < N) {fs : List Value} (he : gw cy ad n A J k = .inr (ci, fs)) (hc : vwCl[ci]? = some (C, T, NN)) (j : Nat) (hj : j < NN) (hlink : (Cond.fieldLink own index C (T j).2.1 (T j).2.2.1).before args s = true) (hsame : (T j).1 = C) (hfin : (T j).2.2.2 = false) {ty : FieldType} {v : Int32} (hd : parseFieldDescriptor (T j).2.2.1 = some ty) (hn : narrow ty (.int v) = .int v) (hfit : fits ty (.int v) = true) (hl : j < fs.length) (he2 : gC cy ad n k (fun j' => if j' = j then v else A k j') (J k) = .inr (ci, fs.set j (.int v)))
    (hdg : decode cc pc = .ok (.putfield index, 3)) (kk : ∀ (H : Heap) (locs : List Loc), gH D base s ad N (gw cy ad n (gu A k j v) J) H locs → W p l e R s m args below meth c H locs cells slots Q (F0 m (pc + 3) ls rest)) : W p l e R s m args below meth c H locs cells slots Q (F0 m pc ls (.int v :: .ref (ad k) :: rest)) :=
  g_put hx hb hts hin ty0 hty hnm hown hE hG hk he hc j hj hlink hsame hfin hd hn hfit hl hdg (fun H1 locs1 h => kk H1 locs1 (h.to (gw_row he2)))
theorem g_putiN (hx : p.tables.exec = Jvm.exec) (hb : c.code = cc) {own C host : String} {T : u_T} {NN ci index : Nat} {Ts : List Cond} (hts : ∀ w ∈ Ts, w.before args s = true) (hin : ∀ w ∈ u_ws C T NN, w ∈ Ts) (ty0 : Nat → FieldType) (hty : ∀ k, k < NN → parseFieldDescriptor (T k).2.2.1 = some (ty0 k)) (hnm : ∀ a, a < NN → ∀ b, b < NN → a ≠ b → (T a).2.1 ≠ (T b).2.1) (hown : s.vm.findClass own = some m.cls) (hE : gE D cy base s) (hG : gH D base s ad N (gw cy ad n A J) H locs) {k : Nat} (hk : k < N) {fs : List Value} (he : gw cy ad n A J k = .inr (ci, fs)) (hc : vwCl[ci]? = some (C, T, NN)) (j : Nat) (hj : j < NN) (i : Nat) (hnest : gnest[i]? = some (.fieldLinkNest own index C (T j).2.1 (T j).2.2.1 host)) (hsame : (T j).1 = C) (hfin : (T j).2.2.2 = false) {ty : FieldType} {v : Int32} (hd : parseFieldDescriptor (T j).2.2.1 = some ty) (hn : narrow ty (.int v) = .int v) (hfit : fits ty (.int v) = true) (hl : j < fs.length) (he2 : gC cy ad n k (fun j' => if j' = j then v else A k j') (J k) = .inr (ci, fs.set j (.int v)))
    (hdg : decode cc pc = .ok (.putfield index, 3)) (kk : ∀ (H : Heap) (locs : List Loc), gH D base s ad N (gw cy ad n (gu A k j v) J) H locs → W p l e R s m args below meth c H locs cells slots Q (F0 m (pc + 3) ls rest)) : W p l e R s m args below meth c H locs cells slots Q (F0 m pc ls (.int v :: .ref (ad k) :: rest)) :=
  g_putN hx hb hts hin ty0 hty hnm hown hE hG hk he hc j hj i hnest hsame hfin hd hn hfit hl hdg (fun H1 locs1 h => kk H1 locs1 (h.to (gw_row he2)))
theorem g_putl (hx : p.tables.exec = Jvm.exec) (hb : c.code = cc) {own C : String} {T : u_T} {NN ci index : Nat} {Ts : List Cond} (hts : ∀ w ∈ Ts, w.before args s = true) (hin : ∀ w ∈ u_ws C T NN, w ∈ Ts) (ty0 : Nat → FieldType) (hty : ∀ k, k < NN → parseFieldDescriptor (T k).2.2.1 = some (ty0 k)) (hnm : ∀ a, a < NN → ∀ b, b < NN → a ≠ b → (T a).2.1 ≠ (T b).2.1) (hown : s.vm.findClass own = some m.cls) (hE : gE D cy base s) (hG : gH D base s ad N (gw cy ad n A J) H locs) {k : Nat} (hk : k < N) {fs : List Value} (he : gw cy ad n A J k = .inr (ci, fs)) (hc : vwCl[ci]? = some (C, T, NN)) (j : Nat) (hj : j < NN) (hlink : (Cond.fieldLink own index C (T j).2.1 (T j).2.2.1).before args s = true) (hsame : (T j).1 = C) (hfin : (T j).2.2.2 = false) {v : Int64} (hd : parseFieldDescriptor (T j).2.2.1 = some .long) (hl : j < fs.length) (he2 : gC cy ad n k (A k) (fun j' => if j' = j then v else J k j') = .inr (ci, fs.set j (.long v)))
    (hdg : decode cc pc = .ok (.putfield index, 3)) (kk : ∀ (H : Heap) (locs : List Loc), gH D base s ad N (gw cy ad n A (gu J k j v)) H locs → W p l e R s m args below meth c H locs cells slots Q (F0 m (pc + 3) ls rest)) : W p l e R s m args below meth c H locs cells slots Q (F0 m pc ls (.long v :: .ref (ad k) :: rest)) :=
  g_put hx hb hts hin ty0 hty hnm hown hE hG hk he hc j hj hlink hsame hfin (v := .long v) hd rfl rfl hl hdg (fun H1 locs1 h => kk H1 locs1 (h.to (gw_rowJ he2)))
/-- arrays -/
theorem g_iald (hx : p.tables.exec = Jvm.exec) (hb : c.code = cc) (hE : gE D cy base s) (hG : gH D base s ad N (gw cy ad n A J) H locs) {k : Nat} (hk : k < N) {nn : Nat} (he : gw cy ad n A J k = .inl (cy 0, nn, .inl (A k))) (i : Nat) {x : Int32} (hx2 : x = nI i) (hi : i < nn) (hnn : nn < 2 ^ 31) (hdg : decode cc pc = .ok (.iaload, 1))
    (kk : W p l e R s m args below meth c H locs cells slots Q (F0 m (pc + 1) ls (.int (A k i) :: rest))) : W p l e R s m args below meth c H locs cells slots Q (F0 m pc ls (.int x :: .ref (ad k) :: rest)) := by
  subst hx2
  refine va_iald hx hb hE.1 hG.1 k 0 (by rw [gl_at hk, he]) rfl (vp_in_nI hi hnn) hdg ?_
  rw [nI_clamp (by omega)]
  exact kk
theorem g_zald (hx : p.tables.exec = Jvm.exec) (hb : c.code = cc) (hE : gE D cy base s) (hG : gH D base s ad N (gw cy ad n A J) H locs) {k : Nat} (hk : k < N) {nn : Nat} (he : gw cy ad n A J k = .inl (cy 2, nn, .inl (A k))) (i : Nat) {x : Int32} (hx2 : x = nI i) (hi : i < nn) (hnn : nn < 2 ^ 31) (hdg : decode cc pc = .ok (.baload, 1))
    (kk : W p l e R s m args below meth c H locs cells slots Q (F0 m (pc + 1) ls (.int (A k i) :: rest))) : W p l e R s m args below meth c H locs cells slots Q (F0 m pc ls (.int x :: .ref (ad k) :: rest)) := by
  subst hx2
  refine va_zald hx hb hE.1 hG.1 k 2 (by rw [gl_at hk, he]) rfl (vp_in_nI hi hnn) hdg ?_
  rw [nI_clamp (by omega)]
  exact kk
theorem g_lald (hx : p.tables.exec = Jvm.exec) (hb : c.code = cc) (hE : gE D cy base s) (hG : gH D base s ad N (gw cy ad n A J) H locs) {k : Nat} (hk : k < N) {nn : Nat} (he : gw cy ad n A J k = .inl (cy 1, nn, .inr (.inl (J k)))) (i : Nat) {x : Int32} (hx2 : x = nI i) (hi : i < nn) (hnn : nn < 2 ^ 31) (hdg : decode cc pc = .ok (.laload, 1))
    (kk : W p l e R s m args below meth c H locs cells slots Q (F0 m (pc + 1) ls (.long (J k i) :: rest))) : W p l e R s m args below meth c H locs cells slots Q (F0 m pc ls (.int x :: .ref (ad k) :: rest)) := by
  subst hx2
  refine va_lald hx hb hE.1 hG.1 k 1 (by rw [gl_at hk, he]) rfl (vp_in_nI hi hnn) hdg ?_
  rw [nI_clamp (by omega)]
  exact kk
theorem g_iast (hx : p.tables.exec = Jvm.exec) (hb : c.code = cc) (hE : gE D cy base s) (hG : gH D base s ad N (gw cy ad n A J) H locs) {k : Nat} (hk : k < N) {nn : Nat} (he : ∀ f, gC cy ad n k f (J k) = .inl (cy 0, nn, .inl f)) (i : Nat) {x v : Int32} (hx2 : x = nI i) (hi : i < nn) (hnn : nn < 2 ^ 31) (hdg : decode cc pc = .ok (.iastore, 1))
    (kk : ∀ (H : Heap) (locs : List Loc), gH D base s ad N (gw cy ad n (gu A k i v) J) H locs → W p l e R s m args below meth c H locs cells slots Q (F0 m (pc + 1) ls rest)) : W p l e R s m args below meth c H locs cells slots Q (F0 m pc ls (.int v :: .int x :: .ref (ad k) :: rest)) := by
  subst hx2
  refine va_iast hx hb hE.1 hG.1 hG.2.1 hG.2.2 k 0 (by rw [gl_at hk]; exact congrArg some (congrArg (Prod.mk (ad k)) (he (A k)))) rfl (vp_in_nI hi hnn) hdg (fun H1 locs1 h1 h2 h3 => kk H1 locs1 ((gH_up hk h1 h2 h3).to (gw_row (f := fun j' => if j' = i then v else A k j') ?_)))
  rw [he, nI_clamp (by omega)]
  rfl
theorem g_zast (hx : p.tables.exec = Jvm.exec) (hb : c.code = cc) (hE : gE D cy base s) (hG : gH D base s ad N (gw cy ad n A J) H locs) {k : Nat} (hk : k < N) {nn : Nat} (he : ∀ f, gC cy ad n k f (J k) = .inl (cy 2, nn, .inl f)) (i : Nat) {x v : Int32} (hv : vp_nar .boolean v = v) (hx2 : x = nI i) (hi : i < nn) (hnn : nn < 2 ^ 31) (hdg : decode cc pc = .ok (.bastore, 1))
    (kk : ∀ (H : Heap) (locs : List Loc), gH D base s ad N (gw cy ad n (gu A k i v) J) H locs → W p l e R s m args below meth c H locs cells slots Q (F0 m (pc + 1) ls rest)) : W p l e R s m args below meth c H locs cells slots Q (F0 m pc ls (.int v :: .int x :: .ref (ad k) :: rest)) := by
  subst hx2
  refine va_zast hx hb hE.1 hG.1 hG.2.1 hG.2.2 k 2 (by rw [gl_at hk]; exact congrArg some (congrArg (Prod.mk (ad k)) (he (A k)))) rfl (vp_in_nI hi hnn) hdg (fun H1 locs1 h1 h2 h3 => kk H1 locs1 ((gH_up hk h1 h2 h3).to (gw_row (f := fun j' => if j' = i then v else A k j') ?_)))
  rw [he, nI_clamp (by omega), hv]
  rfl
theorem g_last (hx : p.tables.exec = Jvm.exec) (hb : c.code = cc) (hE : gE D cy base s) (hG : gH D base s ad N (gw cy ad n A J) H locs) {k : Nat} (hk : k < N) {nn : Nat} (he : ∀ f, gC cy ad n k (A k) f = .inl (cy 1, nn, .inr (.inl f))) (i : Nat) {x : Int32} {v : Int64} (hx2 : x = nI i) (hi : i < nn) (hnn : nn < 2 ^ 31) (hdg : decode cc pc = .ok (.lastore, 1))
    (kk : ∀ (H : Heap) (locs : List Loc), gH D base s ad N (gw cy ad n A (gu J k i v)) H locs → W p l e R s m args below meth c H locs cells slots Q (F0 m (pc + 1) ls rest)) : W p l e R s m args below meth c H locs cells slots Q (F0 m pc ls (.long v :: .int x :: .ref (ad k) :: rest)) := by
  subst hx2
  refine va_last hx hb hE.1 hG.1 hG.2.1 hG.2.2 k 1 (by rw [gl_at hk]; exact congrArg some (congrArg (Prod.mk (ad k)) (he (J k)))) rfl (vp_in_nI hi hnn) hdg (fun H1 locs1 h1 h2 h3 => kk H1 locs1 ((gH_up hk h1 h2 h3).to (gw_rowJ (f := fun j' => if j' = i then v else J k j') ?_)))
  rw [he, nI_clamp (by omega)]
  rfl
theorem g_aald (hx : p.tables.exec = Jvm.exec) (hb : c.code = cc) (hE : gE D cy base s) (hG : gH D base s ad N w H locs) {k : Nat} (hk : k < N) {t0 nn : Nat} {cA : ClassId} {C : String} {f : Nat → Option Nat} (he : w k = .inl (cA, nn, .inr (.inr (.inr (.inr f))))) (ht : (gty cy)[t0]? = some (cA, .object C)) (i : Nat) {x : Int32} (hx2 : x = nI i) (hi : i < nn) (hnn : nn < 2 ^ 31) (hdg : decode cc pc = .ok (.aaload, 1)) {v : Value} (hv : va_rf (f i) = v)
    (kk : W p l e R s m args below meth c H locs cells slots Q (F0 m (pc + 1) ls (v :: rest))) : W p l e R s m args below meth c H locs cells slots Q (F0 m pc ls (.int x :: .ref (ad k) :: rest)) := by
  subst hx2
  refine va_aldq hx hb hE.1 hG.1 k t0 (by rw [gl_at hk, he]) ht (vp_in_nI hi hnn) hdg ?_
  rw [nI_clamp (by omega), hv]
  exact kk
theorem g_alen (hx : p.tables.exec = Jvm.exec) (hb : c.code = cc) (hE : gE D cy base s) (hG : gH D base s ad N w H locs) {k : Nat} (hk : k < N) {t0 : Nat} {cA : ClassId} {x : vp_A} {ty : FieldType} (he : w k = .inl (cA, x)) (ht : (gty cy)[t0]? = some (cA, ty)) {v : Int32} (hv : Int32.ofNat x.1 = v) (hdg : decode cc pc = .ok (.arraylength, 1))
    (kk : W p l e R s m args below meth c H locs cells slots Q (F0 m (pc + 1) ls (.int v :: rest))) : W p l e R s m args below meth c H locs cells slots Q (F0 m pc ls (.ref (ad k) :: rest)) :=
  va_alen hx hb hE.1 hG.1 k t0 (by rw [gl_at hk, he]) ht hv hdg kk
/-- a computed number under another name -/
theorem g_top {x y : Int32} (h : x = y) (k : W p l e R s m args below meth c H locs cells slots Q (F0 m pc ls (.int y :: rest))) : W p l e R s m args below meth c H locs cells slots Q (F0 m pc ls (.int x :: rest)) := by
  subst h; exact k
theorem g_topl {x y : Int64} (h : x = y) (k : W p l e R s m args below meth c H locs cells slots Q (F0 m pc ls (.long y :: rest))) : W p l e R s m args below meth c H locs cells slots Q (F0 m pc ls (.long x :: rest)) := by
  subst h; exact k
/-- ends -/
theorem g_iret {post : Option Value → (Nat → Nat → Int32) → (Nat → Nat → Int64) → Prop} {v : Int32} (hx : p.tables.exec = Jvm.exec) (hb : c.code = cc) (hr : meth.sig.returnType = some .int) (hlocks : meth.locks = false) (hG : gH D base s ad (50 + 2 * n) (gw cy ad n A J) H locs) (hp : post (some (.int v)) A J) (hdg : decode cc pc = .ok (.ireturn, 1)) :
    W p l e R s m args below meth c H locs 0 0 (MQ below (gPost D cy base ad n post) args s 0 0 (fun q => base ≤ q)) (F0 m pc ls [.int v]) :=
  W.iret hx hb hr (fun t ht _ => ⟨⟨_, (A, J), rfl, hp, by show va_P _ _ _ t.heap; rw [ht]; exact hG.1⟩, hG.2.2.F ht⟩) hG.2.2.2.2 hdg hlocks
theorem g_zret {post : Option Value → (Nat → Nat → Int32) → (Nat → Nat → Int64) → Prop} {v : Int32} (hx : p.tables.exec = Jvm.exec) (hb : c.code = cc) (hr : meth.sig.returnType = some .boolean) (hlocks : meth.locks = false) (hG : gH D base s ad (50 + 2 * n) (gw cy ad n A J) H locs) (hn : narrow .boolean (.int v) = .int v) (hp : post (some (.int v)) A J) (hdg : decode cc pc = .ok (.ireturn, 1)) :
    W p l e R s m args below meth c H locs 0 0 (MQ below (gPost D cy base ad n post) args s 0 0 (fun q => base ≤ q)) (F0 m pc ls [.int v]) :=
  W.zret hx hb hr hn (fun t ht _ => ⟨⟨_, (A, J), rfl, hp, by show va_P _ _ _ t.heap; rw [ht]; exact hG.1⟩, hG.2.2.F ht⟩) hG.2.2.2.2 hdg hlocks
theorem g_lret {post : Option Value → (Nat → Nat → Int32) → (Nat → Nat → Int64) → Prop} {v : Int64} (hx : p.tables.exec = Jvm.exec) (hb : c.code = cc) (hr : meth.sig.returnType = some .long) (hlocks : meth.locks = false) (hG : gH D base s ad (50 + 2 * n) (gw cy ad n A J) H locs) (hp : post (some (.long v)) A J) (hdg : decode cc pc = .ok (.lreturn, 1)) :
    W p l e R s m args below meth c H locs 0 0 (MQ below (gPost D cy base ad n post) args s 0 0 (fun q => base ≤ q)) (F0 m pc ls [.long v]) :=
  W.lret hx hb hr (fun t ht _ => ⟨⟨_, (A, J), rfl, hp, by show va_P _ _ _ t.heap; rw [ht]; exact hG.1⟩, hG.2.2.F ht⟩) hG.2.2.2.2 hdg hlocks
theorem g_vret {post : Option Value → (Nat → Nat → Int32) → (Nat → Nat → Int64) → Prop} (hx : p.tables.exec = Jvm.exec) (hb : c.code = cc) (hr : meth.sig.returnType = none) (hlocks : meth.locks = false) (hG : gH D base s ad (50 + 2 * n) (gw cy ad n A J) H locs) (hp : post none A J) (hdg : decode cc pc = .ok (.return_, 1)) :
    W p l e R s m args below meth c H locs 0 0 (MQ below (gPost D cy base ad n post) args s 0 0 (fun q => base ≤ q)) (F0 m pc ls []) :=
  W.vret hx hb hr (fun t ht _ => ⟨⟨_, (A, J), rfl, hp, by show va_P _ _ _ t.heap; rw [ht]; exact hG.1⟩, hG.2.2.F ht⟩) hG.2.2.2.2 hdg hlocks
theorem g_aret {post : Option Value → (Nat → Nat → Int32) → (Nat → Nat → Int64) → Prop} {v : Value} {nm : String} (hx : p.tables.exec = Jvm.exec) (hb : c.code = cc) (hr : meth.sig.returnType = some (.object nm)) (hlocks : meth.locks = false) (hv : v = .null ∨ ∃ a, v = .ref a) (hG : gH D base s ad (50 + 2 * n) (gw cy ad n A J) H locs) (hp : post (some v) A J) (hdg : decode cc pc = .ok (.areturn, 1)) :
    W p l e R s m args below meth c H locs 0 0 (MQ below (gPost D cy base ad n post) args s 0 0 (fun q => base ≤ q)) (F0 m pc ls [v]) :=
  W.aret hx hb hr (Or.inl ⟨nm, rfl⟩) hv (fun t ht _ => ⟨⟨_, (A, J), rfl, hp, by show va_P _ _ _ t.heap; rw [ht]; exact hG.1⟩, hG.2.2.F ht⟩) hG.2.2.2.2 hdg hlocks
/-- calls -/
theorem g_fin {S : Type} {post : Option Value → S → Prop} {B : S → State → Prop} {a : Array Value} {mc ms : Nat} {st0 : List Value} (hr : va_Run p l e R s m args below meth c H locs cells slots mc ms (F0 m pc ls st0) rest (gQc post B (fun q => base ≤ q) a) (fun q => base ≤ q)) (hS : va_S (fun q => base ≤ q) s.heap H locs)
    (kk : ∀ (v : Option Value) (u : S) (t : State) (H1 : Heap) (locs1 : List Loc), t.heap = H1 → post v u → B u t → H.size ≤ H1.size → va_S (fun q => base ≤ q) s.heap H1 locs1 → W p l e R s m args below meth c H1 locs1 (cells + mc) (slots + ms) Q (F0 m (pc + 3) ls (v.toList ++ rest))) : W p l e R s m args below meth c H locs cells slots Q (F0 m pc ls st0) := by
  intro T hT X
  obtain ⟨v, st₀, t, T', L, h0, X', hL, e1, e2, ⟨⟨v', u, hv, hp, hb⟩, hz, hk⟩, st⟩ := hr T hT X
  cases hv
  rw [h0] at hz hk
  obtain ⟨t2, a1, b1⟩ := kk v u t T'.heap (locs ++ L) e1.symm hp hb (by rw [e1]; exact hz)
    ⟨Nat.le_trans hS.1 (by rw [e1]; exact hz), fun q h1 h2 => by rw [e1, hk q (Nat.lt_of_lt_of_le h1 hS.1) h2]; exact hS.2.1 q h1 h2, fun q hq => by
      rcases List.mem_append.mp hq with h | h
      · exact hS.2.2 q h
      · exact hL q h⟩ T' rfl X'
  exact ⟨t2, st t2 a1, b1⟩
theorem g_recv (hE : gE D cy base s) (hG : gH D base s ad N w H locs) {k : Nat} (hk : k < N) {ci : Nat} {fs : List Value} (he : w k = .inr (ci, fs)) {r : vw_C} (hc : vwCl[ci]? = some r) : ∃ cell : Cell, H[ad k]? = some cell ∧ cell.vm.isStatics = false ∧ s.vm.findClass r.1 = some cell.cls :=
  va_recv hE.1 hG.1 hc (q0 := k) (fs := fs) (by rw [gl_at hk, he])
theorem g_pre (hE : gE D cy base s) (hG : gH D base s ad N w H locs) (As : List Value) : PreS s H (gPre D cy base ad N w As) As :=
  ⟨gPre.blind, fun U hU hW => ⟨rfl, hE.warm hG.2.2 hU hW, by rw [hU]; exact hG.1, hG.2.1⟩⟩
theorem g_callV {y : MethodName} {bytes : ByteArray} {maxL nL nn index : Nat} {ret : Option FieldType} {ws : List Cond} {rm : Room} {Ts : List Cond} {own : String} {As st0 : List Value} {post : Option Value → (Nat → Nat → Int32) → (Nat → Nat → Int64) → Prop} {k : Nat} {r : vw_C} {ci : Nat} {fs : List Value}
    (S : CallFix p m c cc nL s args Ts own) (hE : gE D cy base s) (hG : gH D base s ad (50 + 2 * n) (gw cy ad n A J) H locs) (hM : gMet l y ws rm D cy base ad n A J (.ref (ad k) :: As) post) (cw : CallW R s args own r.1 index y bytes maxL ret ws rm 0 0 nn) (hk : k < 50 + 2 * n) (he : gw cy ad n A J k = .inr (ci, fs)) (hc : vwCl[ci]? = some r)
    (hn : As.length = nn) (hsize : ls.size = nL) (hst : st0 = As.reverse ++ .ref (ad k) :: rest) (hW : (rest.map fun v => v.category).sum ≤ 8) (hdg : decode cc pc = .ok (.invokevirtual index, 3)) (hf : cells ≤ R.cells ∧ slots ≤ R.slots)
    (kk : ∀ (v : Option Value) (A : Nat → Nat → Int32) (J : Nat → Nat → Int64) (H : Heap) (locs : List Loc), post v A J → gH D base s ad (50 + 2 * n) (gw cy ad n A J) H locs → W p l e R s m args below meth c H locs cells slots Q (F0 m (pc + 3) ls (v.toList ++ rest))) : W p l e R s m args below meth c H locs cells slots Q (F0 m pc ls st0) := by
  have hP := g_pre hE hG (.ref (ad k) :: As)
  refine g_fin (rest := rest) (mc := 0) (ms := 0) (va_runV (C := r.1) (b := ad k) (As := As) (rest := rest) (g := F0 m pc ls st0) S hM cw ⟨hP.1, g_recv hE hG hk he hc, hP.2⟩ rfl hn hsize hst (by show 2 * 0 + _ ≤ 8; omega) hdg hf) hG.2.2 (fun v u t H1 locs1 ht hp hB hz hS => ?_)
  exact kk v u.1 u.2 H1 locs1 hp ⟨by rw [← ht]; exact hB, gl_D hG.2.1, hS⟩
theorem g_callS {y : MethodName} {bytes : ByteArray} {maxL nL nn index : Nat} {ret : Option FieldType} {ws : List Cond} {rm : Room} {Ts : List Cond} {own : String} {As st0 : List Value} {post : Option Value → (Nat → Nat → Int32) → (Nat → Nat → Int64) → Prop}
    (S : CallFix p m c cc nL s args Ts own) (hE : gE D cy base s) (hG : gH D base s ad (50 + 2 * n) (gw cy ad n A J) H locs) (hM : gMet l y ws rm D cy base ad n A J As post) (cw : CallB R s args own index y bytes maxL ret ws rm 0 0 nn ∧ (Cond.static y).before args s = true)
    (hn : As.length = nn) (hsize : ls.size = nL) (hst : st0 = As.reverse ++ rest) (hW : (rest.map fun v => v.category).sum ≤ 8) (hdg : decode cc pc = .ok (.invokestatic index, 3)) (hf : cells ≤ R.cells ∧ slots ≤ R.slots)
    (kk : ∀ (v : Option Value) (A : Nat → Nat → Int32) (J : Nat → Nat → Int64) (H : Heap) (locs : List Loc), post v A J → gH D base s ad (50 + 2 * n) (gw cy ad n A J) H locs → W p l e R s m args below meth c H locs cells slots Q (F0 m (pc + 3) ls (v.toList ++ rest))) : W p l e R s m args below meth c H locs cells slots Q (F0 m pc ls st0) := by
  refine g_fin (rest := rest) (mc := 0) (ms := 0) (va_runS (As := As) (rest := rest) (g := F0 m pc ls st0) S hM cw (g_pre hE hG As) rfl hn hsize hst (by show 2 * 0 + _ ≤ 8; omega) hdg hf) hG.2.2 (fun v u t H1 locs1 ht hp hB hz hS => ?_)
  exact kk v u.1 u.2 H1 locs1 hp ⟨by rw [← ht]; exact hB, gl_D hG.2.1, hS⟩
end GR
/-- a method's body: what it may take for granted -/
theorem g_ofW {l : Launch} {y : MethodName} {ws ws' : List Cond} {rm : Room} {D : va_G} {cy : Nat → ClassId} {base : Nat} {ad : Nat → Nat} {n : Nat} {A : Nat → Nat → Int32} {J : Nat → Nat → Int64} {av : List Value} {post : Option Value → (Nat → Nat → Int32) → (Nat → Nat → Int64) → Prop} {cc : ByteArray} {maxL : Nat} {ret : Option FieldType}
    (hy : plainName y.cls = true) (hw : ws = Cond.code y cc maxL ret :: ws') (hlen : (lg_sl av).length ≤ maxL)
    (body : ∀ (p : Program) (e : Env) (s : State) (m : MethodId) (args : Array Value) (below : List Frame) (meth : Method) (c : Code) (H : Heap) (locs : List Loc) (ls : Array Slot), p.tables.exec = Jvm.exec → c.code = cc → meth.sig.returnType = ret → (∀ w ∈ ws, w.before args s = true) → s.vm.findClass y.cls = some m.cls → meth.locks = false → c.maxLocals = maxL → gE D cy base s → gH D base s ad (50 + 2 * n) (gw cy ad n A J) H locs → lv_has ls maxL (lv_args 0 av) →
      W p l e rm s m args below meth c H locs 0 0 (MQ below (gPost D cy base ad n post) args s 0 0 (fun q => base ≤ q)) (F0 m 0 ls [])) : gMet l y ws rm D cy base ad n A J av post := by
  refine Met.ofW (cc := cc) (maxL := maxL) (ret := ret) hy hw ?_
  intro p e s m args below meth c s₁ B hml hv
  obtain ⟨rfl, hE, hP, hD⟩ := hv
  rw [lg_entry_eq]
  exact body p e s m av.toArray below meth c s.heap [] _ B.exec B.bytes B.returns (atoms_spec (ws := ws) B.pre) (findClass_of_methodNamed B.named) B.notSynchronized hml hE ⟨hP, hD, va_S.rf⟩ (lv_entry av hlen)
end
section
/-! ===== numbers ===== -/
theorem zz_lt {x y : Int32} : x < y ↔ x.toInt < y.toInt := Int32.lt_iff_toInt_lt
theorem zz_le {x y : Int32} : x ≤ y ↔ x.toInt ≤ y.toInt := Int32.le_iff_toInt_le
theorem zz_eq {x y : Int32} : x = y ↔ x.toInt = y.toInt := Int32.toInt_inj.symm
theorem zn_lt {x : Int32} {k : Nat} (h : k < 2 ^ 31) : x < nI k ↔ x.toInt < (k : Int) := by rw [zz_lt, nI_toInt h]
theorem nz_lt {x : Int32} {k : Nat} (h : k < 2 ^ 31) : nI k < x ↔ (k : Int) < x.toInt := by rw [zz_lt, nI_toInt h]
theorem zn_le {x : Int32} {k : Nat} (h : k < 2 ^ 31) : x ≤ nI k ↔ x.toInt ≤ (k : Int) := by rw [zz_le, nI_toInt h]
theorem nz_le {x : Int32} {k : Nat} (h : k < 2 ^ 31) : nI k ≤ x ↔ (k : Int) ≤ x.toInt := by rw [zz_le, nI_toInt h]
theorem zn_eq {x : Int32} {k : Nat} (h : k < 2 ^ 31) : x = nI k ↔ x.toInt = (k : Int) := by rw [zz_eq, nI_toInt h]
theorem nz_eq {x : Int32} {k : Nat} (h : k < 2 ^ 31) : nI k = x ↔ (k : Int) = x.toInt := by rw [zz_eq, nI_toInt h]
theorem z_bound (x : Int32) : -2147483648 ≤ x.toInt ∧ x.toInt < 2147483648 := ⟨x.le_toInt, x.toInt_lt⟩
/-- an int that isn't below 0 is a number -/
theorem z_nat {x : Int32} (h : 0 ≤ x.toInt) : ∃ j : Nat, j < 2 ^ 31 ∧ x = nI j := nI_of (by rw [zz_lt, Int32.toInt_zero]; omega)
theorem z_is {x : Int32} {k : Nat} (h : x.toInt = (k : Int)) (hk : k < 2 ^ 31) : x = nI k := (zn_eq hk).mpr h
theorem nI_inj {a b : Nat} (ha : a < 2 ^ 31) (hb : b < 2 ^ 31) (h : nI a = nI b) : a = b := (nI_eq ha hb).mp h
def gshl (x : Int64) (y : Int32) : Int64 := x <<< (y.toInt64 &&& 63)
def gshr (x : Int64) (y : Int32) : Int64 := x >>> (y.toInt64 &&& 63)
def gushr (x : Int64) (y : Int32) : Int64 := (x.toUInt64 >>> (y.toInt64.toUInt64 &&& Int64.toUInt64 63)).toInt64
theorem cmp_lt {x y : Int32} {a b : Int} (hx : x.toInt = a) (hy : y.toInt = b) : x < y ↔ a < b := by rw [zz_lt, hx, hy]
theorem cmp_le {x y : Int32} {a b : Int} (hx : x.toInt = a) (hy : y.toInt = b) : x ≤ y ↔ a ≤ b := by rw [zz_le, hx, hy]
theorem cmp_eq {x y : Int32} {a b : Int} (hx : x.toInt = a) (hy : y.toInt = b) : x = y ↔ a = b := by rw [zz_eq, hx, hy]
/-- an int by its value -/
def zI (z : Int) : Int32 := Int32.ofInt z
theorem zI_n (k : Nat) : zI (k : Int) = nI k := rfl
theorem zI_toInt {z : Int} (h : -2147483648 ≤ z) (h2 : z < 2147483648) : (zI z).toInt = z := Int32.toInt_ofInt_of_le (by simpa using h) (by simpa using h2)
theorem zI_of (x : Int32) : zI x.toInt = x := Int32.ofInt_toInt x
theorem zI_add (a b : Int) : zI a + zI b = zI (a + b) := (Int32.ofInt_add a b).symm
theorem zI_sub (a b : Int) : zI a - zI b = zI (a - b) := (Int32.ofInt_sub a b).symm
theorem zI_mul (a b : Int) : zI a * zI b = zI (a * b) := (Int32.ofInt_mul a b).symm
theorem zI_neg (a : Int) : -zI a = zI (-a) := (Int32.ofInt_neg a).symm
theorem zI_add_ni (a : Nat) (b : Int) : nI a + zI b = zI ((a : Int) + b) := zI_add a b
theorem zI_add_in (a : Int) (b : Nat) : zI a + nI b = zI (a + (b : Int)) := zI_add a b
theorem zI_sub_ni (a : Nat) (b : Int) : nI a - zI b = zI ((a : Int) - b) := zI_sub a b
theorem zI_sub_in (a : Int) (b : Nat) : zI a - nI b = zI (a - (b : Int)) := zI_sub a b
theorem zI_sub_nn (a b : Nat) : nI a - nI b = zI ((a : Int) - (b : Int)) := zI_sub a b
theorem zI_mul_ni (a : Nat) (b : Int) : nI a * zI b = zI ((a : Int) * b) := zI_mul a b
theorem zI_mul_in (a : Int) (b : Nat) : zI a * nI b = zI (a * (b : Int)) := zI_mul a b
theorem zI_nat {z : Int} (h : 0 ≤ z) : zI z = nI z.toNat := by rw [← zI_n, Int.toNat_of_nonneg h]
theorem zI_inj {a b : Int} (h1 : -2147483648 ≤ a) (h2 : a < 2147483648) (h3 : -2147483648 ≤ b) (h4 : b < 2147483648) (h : zI a = zI b) : a = b := by
  rw [← zI_toInt h1 h2, h, zI_toInt h3 h4]
end
section
/-! ===== the check's state as numbers: cell k of it (28 to 48), place j ===== -/
theorem zI_ne0 {z : Int} (h : 0 < z) (h2 : z < 2147483648) : ¬ zI z = 0 := fun q => by
  have h1 := zI_toInt (z := z) (by omega) h2
  rw [q, Int32.toInt_zero] at h1
  omega
theorem zI_rem {a b : Int} (h0 : 0 ≤ a) (h1 : a < 2147483648) (h2 : 0 < b) (h3 : b < 2147483648) : zI a - zI a / zI b * zI b = zI (a % b) := by
  rw [zI_nat h0, zI_nat (Int.le_of_lt h2), pk_rem (by omega) (by omega) (by omega), ← zI_n]
  congr 1
  rw [Int.natCast_emod, Int.toNat_of_nonneg h0, Int.toNat_of_nonneg (Int.le_of_lt h2)]
theorem zI_div {a b : Int} (h0 : 0 ≤ a) (h1 : a < 2147483648) (h2 : 0 < b) (h3 : b < 2147483648) : zI a / zI b = zI (a / b) := by
  rw [zI_nat h0, zI_nat (Int.le_of_lt h2), pk_div (by omega) (by omega) (by omega), ← zI_n]
  congr 1
  rw [Int.natCast_ediv, Int.toNat_of_nonneg h0, Int.toNat_of_nonneg (Int.le_of_lt h2)]
def MRep (A : Nat → Nat → Int32) (G : Nat → Nat → Int) : Prop := ∀ k j, 28 ≤ k → k < 49 → A k j = zI (G k j)
theorem MRep.gu {A : Nat → Nat → Int32} {G : Nat → Nat → Int} (h : MRep A G) (k j : Nat) (x : Int) : MRep (gu A k j (zI x)) (gu G k j x) := by
  intro k' j' h1 h2
  rw [gu_at, gu_at]
  by_cases q : k' = k ∧ j' = j
  · rw [if_pos q, if_pos q]
  · rw [if_neg q, if_neg q]
    exact h k' j' h1 h2
/-- the check's cells alone are another's -/
def MOnly (A A1 : Nat → Nat → Int32) : Prop := ∀ k, k < 28 ∨ 49 ≤ k → A1 k = A k
theorem MOnly.rf {A : Nat → Nat → Int32} : MOnly A A := fun _ _ => rfl
theorem MOnly.gu {A A1 : Nat → Nat → Int32} (h : MOnly A A1) {k : Nat} (j : Nat) (v : Int32) (h1 : 28 ≤ k) (h2 : k < 49) : MOnly A (gu A1 k j v) := fun q hq => by rw [gu_ne _ _ _ (by omega)]; exact h q hq
theorem MOnly.trans {A A1 A2 : Nat → Nat → Int32} (h : MOnly A A1) (h2 : MOnly A1 A2) : MOnly A A2 := fun q hq => (h2 q hq).trans (h q hq)
/-- what a point's numbers are like: width 29, convention 30, period 31, samples 32, phase 33, offset 34 -/
abbrev TOk (G : Nat → Nat → Int) (i : Nat) : Prop := 1 ≤ G 29 i ∧ G 29 i ≤ 12 ∧ 0 ≤ G 30 i ∧ G 30 i ≤ 3 ∧ (G 30 i ≠ 0 → 2 ≤ G 29 i) ∧ (G 31 i = 1 ∨ G 31 i = 2 ∨ G 31 i = 4) ∧ (G 32 i = 1 ∨ (G 32 i = 2 ∧ G 31 i = 1)) ∧ 0 ≤ G 33 i ∧ G 33 i < G 31 i ∧ 0 ≤ G 34 i ∧ G 34 i + G 29 i ≤ 48 ∧ (G 32 i = 2 → G 34 i + G 29 i ≤ 24)
abbrev TsOk (G : Nat → Nat → Int) : Prop := 0 ≤ G 28 0 ∧ G 28 0 ≤ 12 ∧ ∀ i : Nat, (i : Int) < G 28 0 → TOk G i
abbrev mCov (G : Nat → Nat → Int) (c b : Int) (k : Nat) : Prop := c % G 31 k = G 33 k ∧ ((G 34 k ≤ b ∧ b < G 34 k + G 29 k) ∨ (G 32 k = 2 ∧ 24 + G 34 k ≤ b ∧ b < 24 + G 34 k + G 29 k))
/-- the point that uses the bit b in frames of the counter c, of the first k points; -1 if none does -/
def mUser (G : Nat → Nat → Int) (c b : Int) : Nat → Int
  | 0 => -1
  | k + 1 => if mCov G c b k then (k : Int) else mUser G c b k
theorem mUser_range (G : Nat → Nat → Int) (c b : Int) (k : Nat) : -1 ≤ mUser G c b k ∧ mUser G c b k < k := by
  induction k with
  | zero => exact ⟨Int.le_refl _, by simp [mUser]⟩
  | succ k ih =>
    simp only [mUser]
    by_cases h : mCov G c b k
    · rw [if_pos h]; omega
    · rw [if_neg h]; omega
end
section
abbrev PX3_length (ad : Nat → Nat) (A : Nat → Nat → Int32) (J : Nat → Nat → Int64) (h e : Nat) : Option Value → (Nat → Nat → Int32) → (Nat → Nat → Int64) → Prop := fun v_ A1 J1 => (v_ = some (.int (nI (e - h))) ∧ A = A1 ∧ J = J1)
set_option maxHeartbeats 4000000 in
set_option maxRecDepth 100000 in
theorem cX3_lengthC (l : Launch) (D : va_G) (cy : Nat → ClassId) (base : Nat) (ad : Nat → Nat) (n : Nat) (A : Nat → Nat → Int32) (J : Nat → Nat → Int64) (h e : Nat) (hh : A 4 1 = nI h) (he : A 4 2 = nI e) (hle : h ≤ e) (he8 : e ≤ 8000) : gMet l yX3_length wsX3_length ({ frames := 0, cells := 0, slots := 0, locals := 0 } : Room) D cy base ad n A J [.ref (ad 4)] (PX3_length ad A J h e) := by
  refine g_ofW (cc := cX3_length) (maxL := 1) (ret := (some .int)) (by decide) rfl (Nat.le_of_ble_eq_true rfl) ?_
  intro p9 e9 s9 m9 a9 b9 meth9 c9 H locs ls hx hb hr hts hown hlocks hml hE hG hl
  have hl : lv_has ls 1 [(0, .ref (ad 4))] := hl
  have hinX3 : ∀ w ∈ u_ws RX3 TX3 3, w ∈ wsX3_length := by decide +kernel
  refine lv_aload_n hx hb dX3_length_0 rfl (lv_at hl 0 rfl) ?_
  refine g_get (C := RX3) (T := TX3) (NN := 3) (ci := 3) hx hb hts hinX3 hown hE hG (k := 4) (by omega) rfl rfl 2 (by decide) (hts (.fieldLink RX3 15 "Commutator$Line" "end" "I") (List.mem_of_getElem? (i := 1) rfl)) rfl (v := .int (A 4 2)) rfl dX3_length_1 ?_
  refine g_top (y := nI e) (he) ?_
  refine lv_aload_n hx hb dX3_length_4 rfl (lv_at hl 0 rfl) ?_
  refine g_get (C := RX3) (T := TX3) (NN := 3) (ci := 3) hx hb hts hinX3 hown hE hG (k := 4) (by omega) rfl rfl 1 (by decide) (hts (.fieldLink RX3 19 "Commutator$Line" "head" "I") (List.mem_of_getElem? (i := 2) rfl)) rfl (v := .int (A 4 1)) rfl dX3_length_5 ?_
  refine g_top (y := nI h) (hh) ?_
  refine lv_isub hx hb dX3_length_8 ?_
  refine g_top (y := nI (e - h)) (pk_sub (by omega)) ?_
  exact g_iret hx hb hr hlocks hG ⟨rfl, rfl, rfl⟩ dX3_length_9

abbrev PX3_holds (ad : Nat → Nat) (A : Nat → Nat → Int32) (J : Nat → Nat → Int64) (h e : Nat) (x k : Int32) : Option Value → (Nat → Nat → Int32) → (Nat → Nat → Int64) → Prop := fun v_ A1 J1 => (v_ = some (.int (nI 1)) ∧ A = A1 ∧ J = J1 ∧ (0 ≤ x.toInt ∧ x.toInt < ((e - h : Nat) : Int) ∧ k.toInt ≤ ((e - h : Nat) : Int) - x.toInt)) ∨ (v_ = some (.int (nI 0)) ∧ A = A1 ∧ J = J1 ∧ (¬ (0 ≤ x.toInt ∧ x.toInt < ((e - h : Nat) : Int) ∧ k.toInt ≤ ((e - h : Nat) : Int) - x.toInt)))
set_option maxHeartbeats 4000000 in
set_option maxRecDepth 100000 in
theorem cX3_holdsC (l : Launch) (D : va_G) (cy : Nat → ClassId) (base : Nat) (ad : Nat → Nat) (n : Nat) (A : Nat → Nat → Int32) (J : Nat → Nat → Int64) (h e : Nat) (x k : Int32) (hh : A 4 1 = nI h) (he : A 4 2 = nI e) (hle : h ≤ e) (he8 : e ≤ 8000) : gMet l yX3_holds wsX3_holds ({ frames := 1, cells := 0, slots := 0, locals := 20 } : Room) D cy base ad n A J [.ref (ad 4), .int x, .int k] (PX3_holds ad A J h e x k) := by
  refine g_ofW (cc := cX3_holds) (maxL := 3) (ret := (some .boolean)) (by decide) rfl (Nat.le_of_ble_eq_true rfl) ?_
  intro p9 e9 s9 m9 a9 b9 meth9 c9 H locs ls hx hb hr hts hown hlocks hml hE hG hl
  have hl : lv_has ls 3 [(0, .ref (ad 4)), (1, .int x), (2, .int k)] := hl
  have hinX3 : ∀ w ∈ u_ws RX3 TX3 3, w ∈ wsX3_holds := by decide +kernel
  refine lv_iload_n hx hb dX3_holds_0 rfl (lv_at hl 1 rfl) ?_
  refine lv_if_lt (tgt := 26) hx hb dX3_holds_1 (by decide) (fun c1 => ?_) (fun c1 => ?_)
  · skip
    have c1 : x < nI 0 := c1
    have c1 : x.toInt < ((0 : Nat) : Int) := (cmp_lt rfl (nI_toInt (by omega))).mp c1
    refine lv_iconst (v := nI 0) hx hb dX3_holds_26 (by decide) ?_
    exact g_zret hx hb hr hlocks hG rfl (Or.inr ⟨rfl, rfl, rfl, by omega⟩) dX3_holds_27
  · skip
    have c1 : ¬ (x < nI 0) := c1
    have c1 : ¬ (x.toInt < ((0 : Nat) : Int)) := fun z9 => c1 ((cmp_lt rfl (nI_toInt (by omega))).mpr z9)
    obtain ⟨j, hj, rfl⟩ := z_nat (x := x) (by omega)
    have hjt : (nI j).toInt = (j : Int) := nI_toInt hj
    refine lv_iload_n hx hb dX3_holds_4 rfl (lv_at hl 1 rfl) ?_
    refine lv_aload_n hx hb dX3_holds_5 rfl (lv_at hl 0 rfl) ?_
    refine g_callV (As := []) (rest := [.int (nI j)]) (r := (RX3, TX3, 3)) ⟨hx, hb, hml, hown, hts⟩ hE hG (cX3_lengthC l D cy base ad n A J _ _ (by first | assumption | omega) (by first | assumption | omega) (by first | assumption | omega) (by first | assumption | omega)) (cwV 0 hts gX3_holds_X3_length rfl rfl rfl (by decide +kernel) ⟨Nat.le_of_ble_eq_true rfl, Nat.le_of_ble_eq_true rfl⟩) (by omega) rfl rfl rfl hl.1 rfl (Nat.le_of_ble_eq_true rfl) dX3_holds_6 ⟨Nat.zero_le _, Nat.zero_le _⟩ (fun v_ A6 J6 H locs hp hG => ?_)
    obtain ⟨rfl, rfl, rfl⟩ := hp
    refine W.eq (g2 := F0 m9 9 ls [.int (nI (_ - _)), .int (nI j)]) rfl ?_
    refine lv_icmp_ge (tgt := 26) hx hb dX3_holds_9 (by decide) (fun c9 => ?_) (fun c9 => ?_)
    · skip
      have c9 : (_ - _) ≤ j := (nI_leI (by omega) (by omega)).mp c9
      refine lv_iconst (v := nI 0) hx hb dX3_holds_26 (by decide) ?_
      exact g_zret hx hb hr hlocks hG rfl (Or.inr ⟨rfl, rfl, rfl, by omega⟩) dX3_holds_27
    · skip
      have c9 : ¬ ((_ - _) ≤ j) := fun z9 => c9 ((nI_leI (by omega) (by omega)).mpr z9)
      refine lv_iload_n hx hb dX3_holds_12 rfl (lv_at hl 2 rfl) ?_
      refine lv_aload_n hx hb dX3_holds_13 rfl (lv_at hl 0 rfl) ?_
      refine g_callV (As := []) (rest := [.int k]) (r := (RX3, TX3, 3)) ⟨hx, hb, hml, hown, hts⟩ hE hG (cX3_lengthC l D cy base ad n A J _ _ (by first | assumption | omega) (by first | assumption | omega) (by first | assumption | omega) (by first | assumption | omega)) (cwV 0 hts gX3_holds_X3_length rfl rfl rfl (by decide +kernel) ⟨Nat.le_of_ble_eq_true rfl, Nat.le_of_ble_eq_true rfl⟩) (by omega) rfl rfl rfl hl.1 rfl (Nat.le_of_ble_eq_true rfl) dX3_holds_14 ⟨Nat.zero_le _, Nat.zero_le _⟩ (fun v_ A14 J14 H locs hp hG => ?_)
      obtain ⟨rfl, rfl, rfl⟩ := hp
      refine W.eq (g2 := F0 m9 17 ls [.int (nI (_ - _)), .int k]) rfl ?_
      refine lv_iload_n hx hb dX3_holds_17 rfl (lv_at hl 1 rfl) ?_
      refine lv_isub hx hb dX3_holds_18 ?_
      refine g_top (y := nI ((_ - _) - j)) (pk_sub (by omega)) ?_
      refine lv_icmp_gt (tgt := 26) hx hb dX3_holds_19 (by decide) (fun c19 => ?_) (fun c19 => ?_)
      · skip
        have c19 : (((_ - _) - j : Nat) : Int) < k.toInt := (cmp_lt (nI_toInt (by omega)) rfl).mp c19
        refine lv_iconst (v := nI 0) hx hb dX3_holds_26 (by decide) ?_
        exact g_zret hx hb hr hlocks hG rfl (Or.inr ⟨rfl, rfl, rfl, by omega⟩) dX3_holds_27
      · skip
        have c19 : ¬ ((((_ - _) - j : Nat) : Int) < k.toInt) := fun z9 => c19 ((cmp_lt (nI_toInt (by omega)) rfl).mpr z9)
        refine lv_iconst (v := nI 1) hx hb dX3_holds_22 (by decide) ?_
        refine lv_goto (tgt := 27) hx hb dX3_holds_23 (by decide) ?_
        exact g_zret hx hb hr hlocks hG rfl (Or.inl ⟨rfl, rfl, rfl, by omega⟩) dX3_holds_27

abbrev PX3_append (ad : Nat → Nat) (A : Nat → Nat → Int32) (J : Nat → Nat → Int64) (h e : Nat) (v : Int32) : Option Value → (Nat → Nat → Int32) → (Nat → Nat → Int64) → Prop := fun v_ A1 J1 => (v_ = none ∧ gu (gu A 5 e v) 4 2 (nI (e + 1)) = A1 ∧ J = J1)
set_option maxHeartbeats 4000000 in
set_option maxRecDepth 100000 in
theorem cX3_appendC (l : Launch) (D : va_G) (cy : Nat → ClassId) (base : Nat) (ad : Nat → Nat) (n : Nat) (A : Nat → Nat → Int32) (J : Nat → Nat → Int64) (h e : Nat) (v : Int32) (hh : A 4 1 = nI h) (he : A 4 2 = nI e) (hle : h ≤ e) (he8 : e ≤ 8000) (hlt : e < 8000) : gMet l yX3_append wsX3_append ({ frames := 0, cells := 0, slots := 0, locals := 0 } : Room) D cy base ad n A J [.ref (ad 4), .int v] (PX3_append ad A J h e v) := by
  refine g_ofW (cc := cX3_append) (maxL := 2) (ret := none) (by decide) rfl (Nat.le_of_ble_eq_true rfl) ?_
  intro p9 e9 s9 m9 a9 b9 meth9 c9 H locs ls hx hb hr hts hown hlocks hml hE hG hl
  have hl : lv_has ls 2 [(0, .ref (ad 4)), (1, .int v)] := hl
  have hinX3 : ∀ w ∈ u_ws RX3 TX3 3, w ∈ wsX3_append := by decide +kernel
  refine lv_aload_n hx hb dX3_append_0 rfl (lv_at hl 0 rfl) ?_
  refine g_get (C := RX3) (T := TX3) (NN := 3) (ci := 3) hx hb hts hinX3 hown hE hG (k := 4) (by omega) rfl rfl 2 (by decide) (hts (.fieldLink RX3 15 "Commutator$Line" "end" "I") (List.mem_of_getElem? (i := 1) rfl)) rfl (v := .int (A 4 2)) rfl dX3_append_1 ?_
  refine g_top (y := nI e) (he) ?_
  refine lv_aload_n hx hb dX3_append_4 rfl (lv_at hl 0 rfl) ?_
  refine g_get (C := RX3) (T := TX3) (NN := 3) (ci := 3) hx hb hts hinX3 hown hE hG (k := 4) (by omega) rfl rfl 0 (by decide) (hts (.fieldLink RX3 9 "Commutator$Line" "bits" "[I") (List.mem_of_getElem? (i := 2) rfl)) rfl (v := .ref (ad 5)) rfl dX3_append_5 ?_
  refine g_alen hx hb hE hG (k := 5) (t0 := 0) (v := nI 8000) (by omega) rfl rfl rfl dX3_append_8 ?_
  refine lv_icmp_ge (tgt := 32) hx hb dX3_append_9 (by decide) (fun c9 => ?_) (fun c9 => ?_)
  · skip
    have c9 : 8000 ≤ e := (nI_leI (by omega) (by omega)).mp c9
    exfalso; omega
  · skip
    have c9 : ¬ (8000 ≤ e) := fun z9 => c9 ((nI_leI (by omega) (by omega)).mpr z9)
    refine lv_aload_n hx hb dX3_append_12 rfl (lv_at hl 0 rfl) ?_
    refine g_get (C := RX3) (T := TX3) (NN := 3) (ci := 3) hx hb hts hinX3 hown hE hG (k := 4) (by omega) rfl rfl 0 (by decide) (hts (.fieldLink RX3 9 "Commutator$Line" "bits" "[I") (List.mem_of_getElem? (i := 2) rfl)) rfl (v := .ref (ad 5)) rfl dX3_append_13 ?_
    refine lv_aload_n hx hb dX3_append_16 rfl (lv_at hl 0 rfl) ?_
    refine g_get (C := RX3) (T := TX3) (NN := 3) (ci := 3) hx hb hts hinX3 hown hE hG (k := 4) (by omega) rfl rfl 2 (by decide) (hts (.fieldLink RX3 15 "Commutator$Line" "end" "I") (List.mem_of_getElem? (i := 1) rfl)) rfl (v := .int (A 4 2)) rfl dX3_append_17 ?_
    refine g_top (y := nI e) (he) ?_
    refine lv_iload_n hx hb dX3_append_20 rfl (lv_at hl 1 rfl) ?_
    refine g_iast hx hb hE hG (k := 5) (by omega) (fun _ => rfl) e (rfl) (by omega) (by omega) dX3_append_21 (fun H locs hG => ?_)
    refine lv_aload_n hx hb dX3_append_22 rfl (lv_at hl 0 rfl) ?_
    refine lv_dup hx hb dX3_append_23 rfl ?_
    refine g_get (C := RX3) (T := TX3) (NN := 3) (ci := 3) hx hb hts hinX3 hown hE hG (k := 4) (by omega) rfl rfl 2 (by decide) (hts (.fieldLink RX3 15 "Commutator$Line" "end" "I") (List.mem_of_getElem? (i := 1) rfl)) rfl (v := .int (A 4 2)) rfl dX3_append_24 ?_
    refine g_top (y := nI e) (he) ?_
    refine lv_iconst (v := nI 1) hx hb dX3_append_27 (by decide) ?_
    refine lv_iadd hx hb dX3_append_28 ?_
    refine g_top (y := nI (e + 1)) (by rw [nI_add]) ?_
    refine g_puti (C := RX3) (T := TX3) (NN := 3) (ci := 3) hx hb hts hinX3 tyX3 tyX3_ok nmX3 hown hE hG (k := 4) (by omega) rfl rfl 2 (by decide) (hts (.fieldLink RX3 15 "Commutator$Line" "end" "I") (List.mem_of_getElem? (i := 1) rfl)) rfl rfl (ty := .int) (v := nI (e + 1)) (by decide +kernel) rfl rfl (Nat.le_of_ble_eq_true rfl) rfl dX3_append_29 (fun H locs hG => ?_)
    exact g_vret hx hb hr hlocks hG ⟨rfl, rfl, rfl⟩ dX3_append_32

abbrev PX3_look (ad : Nat → Nat) (A : Nat → Nat → Int32) (J : Nat → Nat → Int64) (h e : Nat) (j : Nat) : Option Value → (Nat → Nat → Int32) → (Nat → Nat → Int64) → Prop := fun v_ A1 J1 => (v_ = some (.int (A 5 (h + j))) ∧ A = A1 ∧ J = J1)
set_option maxHeartbeats 4000000 in
set_option maxRecDepth 100000 in
theorem cX3_lookC (l : Launch) (D : va_G) (cy : Nat → ClassId) (base : Nat) (ad : Nat → Nat) (n : Nat) (A : Nat → Nat → Int32) (J : Nat → Nat → Int64) (h e : Nat) (j : Nat) (hh : A 4 1 = nI h) (he : A 4 2 = nI e) (hle : h ≤ e) (he8 : e ≤ 8000) (hj : j < e - h) : gMet l yX3_look wsX3_look ({ frames := 2, cells := 0, slots := 0, locals := 42 } : Room) D cy base ad n A J [.ref (ad 4), .int (nI j)] (PX3_look ad A J h e j) := by
  refine g_ofW (cc := cX3_look) (maxL := 2) (ret := (some .int)) (by decide) rfl (Nat.le_of_ble_eq_true rfl) ?_
  intro p9 e9 s9 m9 a9 b9 meth9 c9 H locs ls hx hb hr hts hown hlocks hml hE hG hl
  have hl : lv_has ls 2 [(0, .ref (ad 4)), (1, .int (nI j))] := hl
  have hinX3 : ∀ w ∈ u_ws RX3 TX3 3, w ∈ wsX3_look := by decide +kernel
  refine lv_aload_n hx hb dX3_look_0 rfl (lv_at hl 0 rfl) ?_
  refine lv_iload_n hx hb dX3_look_1 rfl (lv_at hl 1 rfl) ?_
  refine lv_iconst (v := nI 1) hx hb dX3_look_2 (by decide) ?_
  refine g_callV (As := [.int (nI j), .int (nI 1)]) (rest := []) (r := (RX3, TX3, 3)) ⟨hx, hb, hml, hown, hts⟩ hE hG (cX3_holdsC l D cy base ad n A J _ _ (nI j) (nI 1) (by first | assumption | omega) (by first | assumption | omega) (by first | assumption | omega) (by first | assumption | omega)) (cwV 2 hts gX3_look_X3_holds rfl rfl rfl (by decide +kernel) ⟨Nat.le_of_ble_eq_true rfl, Nat.le_of_ble_eq_true rfl⟩) (by omega) rfl rfl rfl hl.1 rfl (Nat.le_of_ble_eq_true rfl) dX3_look_3 ⟨Nat.zero_le _, Nat.zero_le _⟩ (fun v_ A3 J3 H locs hp hG => ?_)
  rcases hp with ⟨rfl, rfl, rfl, hC_3⟩ | ⟨rfl, rfl, rfl, hC_3⟩
  · refine W.eq (g2 := F0 m9 6 ls [.int (nI 1)]) rfl ?_
    refine lv_if_eq (tgt := 23) hx hb dX3_look_6 (by decide) (fun c6 => ?_) (fun c6 => ?_)
    · skip
      exact absurd c6 (by decide)
    · skip
      refine lv_aload_n hx hb dX3_look_9 rfl (lv_at hl 0 rfl) ?_
      refine g_get (C := RX3) (T := TX3) (NN := 3) (ci := 3) hx hb hts hinX3 hown hE hG (k := 4) (by omega) rfl rfl 0 (by decide) (hts (.fieldLink RX3 9 "Commutator$Line" "bits" "[I") (List.mem_of_getElem? (i := 1) rfl)) rfl (v := .ref (ad 5)) rfl dX3_look_10 ?_
      refine lv_aload_n hx hb dX3_look_13 rfl (lv_at hl 0 rfl) ?_
      refine g_get (C := RX3) (T := TX3) (NN := 3) (ci := 3) hx hb hts hinX3 hown hE hG (k := 4) (by omega) rfl rfl 1 (by decide) (hts (.fieldLink RX3 19 "Commutator$Line" "head" "I") (List.mem_of_getElem? (i := 2) rfl)) rfl (v := .int (A 4 1)) rfl dX3_look_14 ?_
      refine g_top (y := nI h) (hh) ?_
      refine lv_iload_n hx hb dX3_look_17 rfl (lv_at hl 1 rfl) ?_
      refine lv_iadd hx hb dX3_look_18 ?_
      refine g_top (y := nI (h + j)) (by rw [nI_add]) ?_
      refine g_iald hx hb hE hG (k := 5) (by omega) rfl (h + j) (rfl) (by omega) (by omega) dX3_look_19 ?_
      refine lv_goto (tgt := 24) hx hb dX3_look_20 (by decide) ?_
      exact g_iret hx hb hr hlocks hG ⟨rfl, rfl, rfl⟩ dX3_look_24
  · refine W.eq (g2 := F0 m9 6 ls [.int (nI 0)]) rfl ?_
    exfalso; apply hC_3; simp only [nI_toInt (show j < 2 ^ 31 by omega), nI_toInt (show 1 < 2 ^ 31 by decide)]; omega

abbrev PX3_takeFirst (ad : Nat → Nat) (A : Nat → Nat → Int32) (J : Nat → Nat → Int64) (h e : Nat) : Option Value → (Nat → Nat → Int32) → (Nat → Nat → Int64) → Prop := fun v_ A1 J1 => (v_ = some (.int (A 5 h)) ∧ gu A 4 1 (nI (h + 1)) = A1 ∧ J = J1)
set_option maxHeartbeats 4000000 in
set_option maxRecDepth 100000 in
theorem cX3_takeFirstC (l : Launch) (D : va_G) (cy : Nat → ClassId) (base : Nat) (ad : Nat → Nat) (n : Nat) (A : Nat → Nat → Int32) (J : Nat → Nat → Int64) (h e : Nat) (hh : A 4 1 = nI h) (he : A 4 2 = nI e) (hle : h ≤ e) (he8 : e ≤ 8000) (hlt : h < e) : gMet l yX3_takeFirst wsX3_takeFirst ({ frames := 2, cells := 0, slots := 0, locals := 42 } : Room) D cy base ad n A J [.ref (ad 4)] (PX3_takeFirst ad A J h e) := by
  refine g_ofW (cc := cX3_takeFirst) (maxL := 2) (ret := (some .int)) (by decide) rfl (Nat.le_of_ble_eq_true rfl) ?_
  intro p9 e9 s9 m9 a9 b9 meth9 c9 H locs ls hx hb hr hts hown hlocks hml hE hG hl
  have hl : lv_has ls 2 [(0, .ref (ad 4))] := hl
  have hinX3 : ∀ w ∈ u_ws RX3 TX3 3, w ∈ wsX3_takeFirst := by decide +kernel
  refine lv_aload_n hx hb dX3_takeFirst_0 rfl (lv_at hl 0 rfl) ?_
  refine lv_iconst (v := nI 0) hx hb dX3_takeFirst_1 (by decide) ?_
  refine lv_iconst (v := nI 1) hx hb dX3_takeFirst_2 (by decide) ?_
  refine g_callV (As := [.int (nI 0), .int (nI 1)]) (rest := []) (r := (RX3, TX3, 3)) ⟨hx, hb, hml, hown, hts⟩ hE hG (cX3_holdsC l D cy base ad n A J _ _ (nI 0) (nI 1) (by first | assumption | omega) (by first | assumption | omega) (by first | assumption | omega) (by first | assumption | omega)) (cwV 2 hts gX3_takeFirst_X3_holds rfl rfl rfl (by decide +kernel) ⟨Nat.le_of_ble_eq_true rfl, Nat.le_of_ble_eq_true rfl⟩) (by omega) rfl rfl rfl hl.1 rfl (Nat.le_of_ble_eq_true rfl) dX3_takeFirst_3 ⟨Nat.zero_le _, Nat.zero_le _⟩ (fun v_ A3 J3 H locs hp hG => ?_)
  rcases hp with ⟨rfl, rfl, rfl, hC_3⟩ | ⟨rfl, rfl, rfl, hC_3⟩
  · refine W.eq (g2 := F0 m9 6 ls [.int (nI 1)]) rfl ?_
    refine lv_if_ne (tgt := 11) hx hb dX3_takeFirst_6 (by decide) (fun c6 => ?_) (fun c6 => ?_)
    · skip
      refine lv_aload_n hx hb dX3_takeFirst_11 rfl (lv_at hl 0 rfl) ?_
      refine g_get (C := RX3) (T := TX3) (NN := 3) (ci := 3) hx hb hts hinX3 hown hE hG (k := 4) (by omega) rfl rfl 0 (by decide) (hts (.fieldLink RX3 9 "Commutator$Line" "bits" "[I") (List.mem_of_getElem? (i := 1) rfl)) rfl (v := .ref (ad 5)) rfl dX3_takeFirst_12 ?_
      refine lv_aload_n hx hb dX3_takeFirst_15 rfl (lv_at hl 0 rfl) ?_
      refine g_get (C := RX3) (T := TX3) (NN := 3) (ci := 3) hx hb hts hinX3 hown hE hG (k := 4) (by omega) rfl rfl 1 (by decide) (hts (.fieldLink RX3 19 "Commutator$Line" "head" "I") (List.mem_of_getElem? (i := 2) rfl)) rfl (v := .int (A 4 1)) rfl dX3_takeFirst_16 ?_
      refine g_top (y := nI h) (hh) ?_
      refine g_iald hx hb hE hG (k := 5) (by omega) rfl h (rfl) (by omega) (by omega) dX3_takeFirst_19 ?_
      refine lv_istore_n (lv' := [(1, .int (A 5 h)), (0, .ref (ad 4))]) hx hb dX3_takeFirst_20 rfl hl (by decide) rfl (fun ls hl => ?_)
      refine lv_aload_n hx hb dX3_takeFirst_21 rfl (lv_at hl 1 rfl) ?_
      refine lv_dup hx hb dX3_takeFirst_22 rfl ?_
      refine g_get (C := RX3) (T := TX3) (NN := 3) (ci := 3) hx hb hts hinX3 hown hE hG (k := 4) (by omega) rfl rfl 1 (by decide) (hts (.fieldLink RX3 19 "Commutator$Line" "head" "I") (List.mem_of_getElem? (i := 2) rfl)) rfl (v := .int (A 4 1)) rfl dX3_takeFirst_23 ?_
      refine g_top (y := nI h) (hh) ?_
      refine lv_iconst (v := nI 1) hx hb dX3_takeFirst_26 (by decide) ?_
      refine lv_iadd hx hb dX3_takeFirst_27 ?_
      refine g_top (y := nI (h + 1)) (by rw [nI_add]) ?_
      refine g_puti (C := RX3) (T := TX3) (NN := 3) (ci := 3) hx hb hts hinX3 tyX3 tyX3_ok nmX3 hown hE hG (k := 4) (by omega) rfl rfl 1 (by decide) (hts (.fieldLink RX3 19 "Commutator$Line" "head" "I") (List.mem_of_getElem? (i := 2) rfl)) rfl rfl (ty := .int) (v := nI (h + 1)) (by decide +kernel) rfl rfl (Nat.le_of_ble_eq_true rfl) rfl dX3_takeFirst_28 (fun H locs hG => ?_)
      refine lv_iload_n hx hb dX3_takeFirst_31 rfl (lv_at hl 0 rfl) ?_
      exact g_iret hx hb hr hlocks hG ⟨rfl, rfl, rfl⟩ dX3_takeFirst_32
    · skip
      exact absurd c6 (by decide)
  · refine W.eq (g2 := F0 m9 6 ls [.int (nI 0)]) rfl ?_
    exfalso; apply hC_3; simp only [nI_toInt (show 0 < 2 ^ 31 by decide), nI_toInt (show 1 < 2 ^ 31 by decide)]; omega

abbrev PX3_turnOver (ad : Nat → Nat) (A : Nat → Nat → Int32) (J : Nat → Nat → Int64) (h e : Nat) (j : Nat) : Option Value → (Nat → Nat → Int32) → (Nat → Nat → Int64) → Prop := fun v_ A1 J1 => (v_ = some (.int (A 5 (h + j) ^^^ nI 1)) ∧ gu A 5 (h + j) (A 5 (h + j) ^^^ nI 1) = A1 ∧ J = J1)
set_option maxHeartbeats 4000000 in
set_option maxRecDepth 100000 in
theorem cX3_turnOverC (l : Launch) (D : va_G) (cy : Nat → ClassId) (base : Nat) (ad : Nat → Nat) (n : Nat) (A : Nat → Nat → Int32) (J : Nat → Nat → Int64) (h e : Nat) (j : Nat) (hh : A 4 1 = nI h) (he : A 4 2 = nI e) (hle : h ≤ e) (he8 : e ≤ 8000) (hj : j < e - h) : gMet l yX3_turnOver wsX3_turnOver ({ frames := 2, cells := 0, slots := 0, locals := 42 } : Room) D cy base ad n A J [.ref (ad 4), .int (nI j)] (PX3_turnOver ad A J h e j) := by
  refine g_ofW (cc := cX3_turnOver) (maxL := 2) (ret := (some .int)) (by decide) rfl (Nat.le_of_ble_eq_true rfl) ?_
  intro p9 e9 s9 m9 a9 b9 meth9 c9 H locs ls hx hb hr hts hown hlocks hml hE hG hl
  have hl : lv_has ls 2 [(0, .ref (ad 4)), (1, .int (nI j))] := hl
  have hinX3 : ∀ w ∈ u_ws RX3 TX3 3, w ∈ wsX3_turnOver := by decide +kernel
  refine lv_aload_n hx hb dX3_turnOver_0 rfl (lv_at hl 0 rfl) ?_
  refine lv_iload_n hx hb dX3_turnOver_1 rfl (lv_at hl 1 rfl) ?_
  refine lv_iconst (v := nI 1) hx hb dX3_turnOver_2 (by decide) ?_
  refine g_callV (As := [.int (nI j), .int (nI 1)]) (rest := []) (r := (RX3, TX3, 3)) ⟨hx, hb, hml, hown, hts⟩ hE hG (cX3_holdsC l D cy base ad n A J _ _ (nI j) (nI 1) (by first | assumption | omega) (by first | assumption | omega) (by first | assumption | omega) (by first | assumption | omega)) (cwV 2 hts gX3_turnOver_X3_holds rfl rfl rfl (by decide +kernel) ⟨Nat.le_of_ble_eq_true rfl, Nat.le_of_ble_eq_true rfl⟩) (by omega) rfl rfl rfl hl.1 rfl (Nat.le_of_ble_eq_true rfl) dX3_turnOver_3 ⟨Nat.zero_le _, Nat.zero_le _⟩ (fun v_ A3 J3 H locs hp hG => ?_)
  rcases hp with ⟨rfl, rfl, rfl, hC_3⟩ | ⟨rfl, rfl, rfl, hC_3⟩
  · refine W.eq (g2 := F0 m9 6 ls [.int (nI 1)]) rfl ?_
    refine lv_if_ne (tgt := 11) hx hb dX3_turnOver_6 (by decide) (fun c6 => ?_) (fun c6 => ?_)
    · skip
      refine lv_aload_n hx hb dX3_turnOver_11 rfl (lv_at hl 0 rfl) ?_
      refine g_get (C := RX3) (T := TX3) (NN := 3) (ci := 3) hx hb hts hinX3 hown hE hG (k := 4) (by omega) rfl rfl 0 (by decide) (hts (.fieldLink RX3 9 "Commutator$Line" "bits" "[I") (List.mem_of_getElem? (i := 1) rfl)) rfl (v := .ref (ad 5)) rfl dX3_turnOver_12 ?_
      refine lv_aload_n hx hb dX3_turnOver_15 rfl (lv_at hl 0 rfl) ?_
      refine g_get (C := RX3) (T := TX3) (NN := 3) (ci := 3) hx hb hts hinX3 hown hE hG (k := 4) (by omega) rfl rfl 1 (by decide) (hts (.fieldLink RX3 19 "Commutator$Line" "head" "I") (List.mem_of_getElem? (i := 2) rfl)) rfl (v := .int (A 4 1)) rfl dX3_turnOver_16 ?_
      refine g_top (y := nI h) (hh) ?_
      refine lv_iload_n hx hb dX3_turnOver_19 rfl (lv_at hl 1 rfl) ?_
      refine lv_iadd hx hb dX3_turnOver_20 ?_
      refine g_top (y := nI (h + j)) (by rw [nI_add]) ?_
      refine lv_dup2_11 hx hb dX3_turnOver_21 rfl rfl ?_
      refine g_iald hx hb hE hG (k := 5) (by omega) rfl (h + j) (rfl) (by omega) (by omega) dX3_turnOver_22 ?_
      refine lv_iconst (v := nI 1) hx hb dX3_turnOver_23 (by decide) ?_
      refine lv_ixor hx hb dX3_turnOver_24 ?_
      refine g_iast hx hb hE hG (k := 5) (by omega) (fun _ => rfl) (h + j) (rfl) (by omega) (by omega) dX3_turnOver_25 (fun H locs hG => ?_)
      refine lv_aload_n hx hb dX3_turnOver_26 rfl (lv_at hl 0 rfl) ?_
      refine g_get (C := RX3) (T := TX3) (NN := 3) (ci := 3) hx hb hts hinX3 hown hE hG (k := 4) (by omega) rfl rfl 0 (by decide) (hts (.fieldLink RX3 9 "Commutator$Line" "bits" "[I") (List.mem_of_getElem? (i := 1) rfl)) rfl (v := .ref (ad 5)) rfl dX3_turnOver_27 ?_
      refine lv_aload_n hx hb dX3_turnOver_30 rfl (lv_at hl 0 rfl) ?_
      refine g_get (C := RX3) (T := TX3) (NN := 3) (ci := 3) hx hb hts hinX3 hown hE hG (k := 4) (by omega) rfl rfl 1 (by decide) (hts (.fieldLink RX3 19 "Commutator$Line" "head" "I") (List.mem_of_getElem? (i := 2) rfl)) rfl (v := .int (A 4 1)) rfl dX3_turnOver_31 ?_
      refine g_top (y := nI h) (hh) ?_
      refine lv_iload_n hx hb dX3_turnOver_34 rfl (lv_at hl 1 rfl) ?_
      refine lv_iadd hx hb dX3_turnOver_35 ?_
      refine g_top (y := nI (h + j)) (by rw [nI_add]) ?_
      refine g_iald hx hb hE hG (k := 5) (by omega) rfl (h + j) (rfl) (by omega) (by omega) dX3_turnOver_36 ?_
      refine g_top (y := (A 5 (h + j)) ^^^ (nI 1)) (by first | rfl | (simp [gu_at]; done) | (rw [gu_at]; simp; omega)) ?_
      exact g_iret hx hb hr hlocks hG ⟨rfl, rfl, rfl⟩ dX3_turnOver_37
    · skip
      exact absurd c6 (by decide)
  · refine W.eq (g2 := F0 m9 6 ls [.int (nI 0)]) rfl ?_
    exfalso; apply hC_3; simp only [nI_toInt (show j < 2 ^ 31 by omega), nI_toInt (show 1 < 2 ^ 31 by decide)]; omega
end
section
abbrev PX10_can (ad : Nat → Nat) (A : Nat → Nat → Int32) (J : Nat → Nat → Int64) (f : Nat) : Option Value → (Nat → Nat → Int32) → (Nat → Nat → Int64) → Prop := fun v_ A1 J1 => (v_ = some (.int (nI 1)) ∧ gu A 28 34 (nI f) = A1 ∧ J = J1 ∧ (f = 0)) ∨ (v_ = some (.int (nI 0)) ∧ gu A 28 34 (nI f) = A1 ∧ J = J1 ∧ (¬ f = 0))
set_option maxHeartbeats 4000000 in
set_option maxRecDepth 100000 in
theorem cX10_canC (l : Launch) (D : va_G) (cy : Nat → ClassId) (base : Nat) (ad : Nat → Nat) (n : Nat) (A : Nat → Nat → Int32) (J : Nat → Nat → Int64) (f : Nat) (hf : f < 2147483648) : gMet l yX10_can wsX10_can ({ frames := 0, cells := 0, slots := 0, locals := 0 } : Room) D cy base ad n A J [.ref (ad 28), .int (nI f)] (PX10_can ad A J f) := by
  refine g_ofW (cc := cX10_can) (maxL := 2) (ret := (some .boolean)) (by decide) rfl (Nat.le_of_ble_eq_true rfl) ?_
  intro p9 e9 s9 m9 a9 b9 meth9 c9 H locs ls hx hb hr hts hown hlocks hml hE hG hl
  have hl : lv_has ls 2 [(0, .ref (ad 28)), (1, .int (nI f))] := hl
  have hinX10 : ∀ w ∈ u_ws RX10 TX10 35, w ∈ wsX10_can := by decide +kernel
  refine lv_aload_n hx hb dX10_can_0 rfl (lv_at hl 0 rfl) ?_
  refine lv_iload_n hx hb dX10_can_1 rfl (lv_at hl 1 rfl) ?_
  refine g_puti (C := RX10) (T := TX10) (NN := 35) (ci := 10) hx hb hts hinX10 tyX10 tyX10_ok nmX10 hown hE hG (k := 28) (by omega) rfl rfl 34 (by decide) (hts (.fieldLink RX10 78 "CommutatorModel" "thrown" "I") (List.mem_of_getElem? (i := 1) rfl)) rfl rfl (ty := .int) (v := nI f) (by decide +kernel) rfl rfl (Nat.le_of_ble_eq_true rfl) rfl dX10_can_2 (fun H locs hG => ?_)
  refine lv_iload_n hx hb dX10_can_5 rfl (lv_at hl 1 rfl) ?_
  refine lv_if_ne (tgt := 13) hx hb dX10_can_6 (by decide) (fun c6 => ?_) (fun c6 => ?_)
  · skip
    have c6 : ¬ ((nI f) = nI 0) := c6
    have c6 : ¬ (f = 0) := fun z9 => c6 ((nI_eq (by omega) (by omega)).mpr z9)
    refine lv_iconst (v := nI 0) hx hb dX10_can_13 (by decide) ?_
    exact g_zret hx hb hr hlocks hG rfl (Or.inr ⟨rfl, rfl, rfl, by omega⟩) dX10_can_14
  · skip
    have c6 : (nI f) = nI 0 := c6
    have c6 : f = 0 := (nI_eq (by omega) (by omega)).mp c6
    refine lv_iconst (v := nI 1) hx hb dX10_can_9 (by decide) ?_
    refine lv_goto (tgt := 14) hx hb dX10_can_10 (by decide) ?_
    exact g_zret hx hb hr hlocks hG rfl (Or.inl ⟨rfl, rfl, rfl, by omega⟩) dX10_can_14

abbrev PX10_isIn (ad : Nat → Nat) (A : Nat → Nat → Int32) (J : Nat → Nat → Int64) (x : Int32) (f t : Int) : Option Value → (Nat → Nat → Int32) → (Nat → Nat → Int64) → Prop := fun v_ A1 J1 => (v_ = some (.int (nI 1)) ∧ A = A1 ∧ J = J1 ∧ (f ≤ x.toInt ∧ x.toInt ≤ t)) ∨ (v_ = some (.int (nI 0)) ∧ A = A1 ∧ J = J1 ∧ (¬ (f ≤ x.toInt ∧ x.toInt ≤ t)))
set_option maxHeartbeats 4000000 in
set_option maxRecDepth 100000 in
theorem cX10_isInC (l : Launch) (D : va_G) (cy : Nat → ClassId) (base : Nat) (ad : Nat → Nat) (n : Nat) (A : Nat → Nat → Int32) (J : Nat → Nat → Int64) (x : Int32) (f t : Int) (hf1 : -2147483648 ≤ f) (hf2 : f < 2147483648) (ht1 : -2147483648 ≤ t) (ht2 : t < 2147483648) : gMet l yX10_isIn wsX10_isIn ({ frames := 0, cells := 0, slots := 0, locals := 0 } : Room) D cy base ad n A J [.int x, .int (zI f), .int (zI t)] (PX10_isIn ad A J x f t) := by
  refine g_ofW (cc := cX10_isIn) (maxL := 3) (ret := (some .boolean)) (by decide) rfl (Nat.le_of_ble_eq_true rfl) ?_
  intro p9 e9 s9 m9 a9 b9 meth9 c9 H locs ls hx hb hr hts hown hlocks hml hE hG hl
  have hl : lv_has ls 3 [(0, .int x), (1, .int (zI f)), (2, .int (zI t))] := hl
  refine lv_iload_n hx hb dX10_isIn_0 rfl (lv_at hl 0 rfl) ?_
  refine lv_iload_n hx hb dX10_isIn_1 rfl (lv_at hl 1 rfl) ?_
  refine lv_icmp_lt (tgt := 14) hx hb dX10_isIn_2 (by decide) (fun c2 => ?_) (fun c2 => ?_)
  · skip
    have c2 : x.toInt < f := (cmp_lt rfl (zI_toInt (by omega) (by omega))).mp c2
    refine lv_iconst (v := nI 0) hx hb dX10_isIn_14 (by decide) ?_
    exact g_zret hx hb hr hlocks hG rfl (Or.inr ⟨rfl, rfl, rfl, by omega⟩) dX10_isIn_15
  · skip
    have c2 : ¬ (x.toInt < f) := fun z9 => c2 ((cmp_lt rfl (zI_toInt (by omega) (by omega))).mpr z9)
    refine lv_iload_n hx hb dX10_isIn_5 rfl (lv_at hl 0 rfl) ?_
    refine lv_iload_n hx hb dX10_isIn_6 rfl (lv_at hl 2 rfl) ?_
    refine lv_icmp_gt (tgt := 14) hx hb dX10_isIn_7 (by decide) (fun c7 => ?_) (fun c7 => ?_)
    · skip
      have c7 : t < x.toInt := (cmp_lt (zI_toInt (by omega) (by omega)) rfl).mp c7
      refine lv_iconst (v := nI 0) hx hb dX10_isIn_14 (by decide) ?_
      exact g_zret hx hb hr hlocks hG rfl (Or.inr ⟨rfl, rfl, rfl, by omega⟩) dX10_isIn_15
    · skip
      have c7 : ¬ (t < x.toInt) := fun z9 => c7 ((cmp_lt (zI_toInt (by omega) (by omega)) rfl).mpr z9)
      refine lv_iconst (v := nI 1) hx hb dX10_isIn_10 (by decide) ?_
      refine lv_goto (tgt := 15) hx hb dX10_isIn_11 (by decide) ?_
      exact g_zret hx hb hr hlocks hG rfl (Or.inl ⟨rfl, rfl, rfl, by omega⟩) dX10_isIn_15

abbrev PX10_isPoint (ad : Nat → Nat) (A : Nat → Nat → Int32) (J : Nat → Nat → Int64) (G : Nat → Nat → Int) (x : Int32) : Option Value → (Nat → Nat → Int32) → (Nat → Nat → Int64) → Prop := fun v_ A1 J1 => (v_ = some (.int (nI 1)) ∧ A = A1 ∧ J = J1 ∧ (0 ≤ x.toInt ∧ x.toInt < G 28 0)) ∨ (v_ = some (.int (nI 0)) ∧ A = A1 ∧ J = J1 ∧ (¬ (0 ≤ x.toInt ∧ x.toInt < G 28 0)))
set_option maxHeartbeats 4000000 in
set_option maxRecDepth 100000 in
theorem cX10_isPointC (l : Launch) (D : va_G) (cy : Nat → ClassId) (base : Nat) (ad : Nat → Nat) (n : Nat) (A : Nat → Nat → Int32) (J : Nat → Nat → Int64) (G : Nat → Nat → Int) (x : Int32) (hM : MRep A G) (hn : 0 ≤ G 28 0 ∧ G 28 0 ≤ 12) : gMet l yX10_isPoint wsX10_isPoint ({ frames := 1, cells := 0, slots := 0, locals := 22 } : Room) D cy base ad n A J [.ref (ad 28), .int x] (PX10_isPoint ad A J G x) := by
  refine g_ofW (cc := cX10_isPoint) (maxL := 2) (ret := (some .boolean)) (by decide) rfl (Nat.le_of_ble_eq_true rfl) ?_
  intro p9 e9 s9 m9 a9 b9 meth9 c9 H locs ls hx hb hr hts hown hlocks hml hE hG hl
  have hl : lv_has ls 2 [(0, .ref (ad 28)), (1, .int x)] := hl
  have hinX10 : ∀ w ∈ u_ws RX10 TX10 35, w ∈ wsX10_isPoint := by decide +kernel
  refine lv_iload_n hx hb dX10_isPoint_0 rfl (lv_at hl 1 rfl) ?_
  refine lv_iconst (v := nI 0) hx hb dX10_isPoint_1 (by decide) ?_
  refine lv_aload_n hx hb dX10_isPoint_2 rfl (lv_at hl 0 rfl) ?_
  refine g_get (C := RX10) (T := TX10) (NN := 35) (ci := 10) hx hb hts hinX10 hown hE hG (k := 28) (by omega) rfl rfl 0 (by decide) (hts (.fieldLink RX10 81 "CommutatorModel" "points" "I") (List.mem_of_getElem? (i := 1) rfl)) rfl (v := .int (A 28 0)) rfl dX10_isPoint_3 ?_
  refine g_top (y := zI (G 28 0)) (hM 28 0 (by decide) (by decide)) ?_
  refine lv_iconst (v := nI 1) hx hb dX10_isPoint_6 (by decide) ?_
  refine lv_isub hx hb dX10_isPoint_7 ?_
  refine g_top (y := zI ((G 28 0) - 1)) (zI_sub_in _ _) ?_
  refine g_callS (As := [.int x, .int (nI 0), .int (zI ((G 28 0) - 1))]) (rest := []) ⟨hx, hb, hml, hown, hts⟩ hE hG (cX10_isInC l D cy base ad n A J x 0 ((G 28 0) - 1) (by first | assumption | omega) (by first | assumption | omega) (by first | assumption | omega) (by first | assumption | omega)) (va_cwS 3 hts gX10_isPoint_X10_isIn rfl rfl rfl (by decide +kernel) ⟨Nat.le_of_ble_eq_true rfl, Nat.le_of_ble_eq_true rfl⟩) rfl hl.1 rfl (Nat.le_of_ble_eq_true rfl) dX10_isPoint_8 ⟨Nat.zero_le _, Nat.zero_le _⟩ (fun v_ A8 J8 H locs hp hG => ?_)
  rcases hp with ⟨rfl, rfl, rfl, hC_8⟩ | ⟨rfl, rfl, rfl, hC_8⟩
  · refine W.eq (g2 := F0 m9 11 ls [.int (nI 1)]) rfl ?_
    exact g_zret hx hb hr hlocks hG rfl (Or.inl ⟨rfl, rfl, rfl, by omega⟩) dX10_isPoint_11
  · refine W.eq (g2 := F0 m9 11 ls [.int (nI 0)]) rfl ?_
    exact g_zret hx hb hr hlocks hG rfl (Or.inr ⟨rfl, rfl, rfl, by omega⟩) dX10_isPoint_11

abbrev PX10_isSent (ad : Nat → Nat) (A : Nat → Nat → Int32) (J : Nat → Nat → Int64) (G : Nat → Nat → Int) (k : Nat) (c : Int) : Option Value → (Nat → Nat → Int32) → (Nat → Nat → Int64) → Prop := fun v_ A1 J1 => (v_ = some (.int (nI 1)) ∧ A = A1 ∧ J = J1 ∧ (c % G 31 k = G 33 k)) ∨ (v_ = some (.int (nI 0)) ∧ A = A1 ∧ J = J1 ∧ (¬ (c % G 31 k = G 33 k)))
set_option maxHeartbeats 4000000 in
set_option maxRecDepth 100000 in
theorem cX10_isSentC (l : Launch) (D : va_G) (cy : Nat → ClassId) (base : Nat) (ad : Nat → Nat) (n : Nat) (A : Nat → Nat → Int32) (J : Nat → Nat → Int64) (G : Nat → Nat → Int) (k : Nat) (c : Int) (hM : MRep A G) (hk : k < 12) (hT : TOk G k) (hc : 0 ≤ c) (hc2 : c < 2147483648) : gMet l yX10_isSent wsX10_isSent ({ frames := 0, cells := 0, slots := 0, locals := 0 } : Room) D cy base ad n A J [.ref (ad 28), .int (nI k), .int (zI c)] (PX10_isSent ad A J G k c) := by
  refine g_ofW (cc := cX10_isSent) (maxL := 3) (ret := (some .boolean)) (by decide) rfl (Nat.le_of_ble_eq_true rfl) ?_
  intro p9 e9 s9 m9 a9 b9 meth9 c9 H locs ls hx hb hr hts hown hlocks hml hE hG hl
  have hl : lv_has ls 3 [(0, .ref (ad 28)), (1, .int (nI k)), (2, .int (zI c))] := hl
  have hinX10 : ∀ w ∈ u_ws RX10 TX10 35, w ∈ wsX10_isSent := by decide +kernel
  have hm1 := Int.emod_nonneg c (show G 31 k ≠ 0 by omega)
  have hm2 := Int.emod_lt_of_pos c (show 0 < G 31 k by omega)
  refine lv_iload_n hx hb dX10_isSent_0 rfl (lv_at hl 2 rfl) ?_
  refine lv_aload_n hx hb dX10_isSent_1 rfl (lv_at hl 0 rfl) ?_
  refine g_get (C := RX10) (T := TX10) (NN := 35) (ci := 10) hx hb hts hinX10 hown hE hG (k := 28) (by omega) rfl rfl 3 (by decide) (hts (.fieldLink RX10 16 "CommutatorModel" "period" "[I") (List.mem_of_getElem? (i := 1) rfl)) rfl (v := .ref (ad 31)) rfl dX10_isSent_2 ?_
  refine lv_iload_n hx hb dX10_isSent_5 rfl (lv_at hl 1 rfl) ?_
  refine g_iald hx hb hE hG (k := 31) (by omega) rfl k (rfl) (by omega) (by omega) dX10_isSent_6 ?_
  refine g_top (y := zI (G 31 k)) (hM 31 k (by decide) (by decide)) ?_
  refine lv_irem hx hb dX10_isSent_7 (zI_ne0 (by omega) (by omega)) ?_
  refine g_top (y := zI (c % G 31 k)) (zI_rem (by omega) (by omega) (by omega) (by omega)) ?_
  refine lv_aload_n hx hb dX10_isSent_8 rfl (lv_at hl 0 rfl) ?_
  refine g_get (C := RX10) (T := TX10) (NN := 35) (ci := 10) hx hb hts hinX10 hown hE hG (k := 28) (by omega) rfl rfl 5 (by decide) (hts (.fieldLink RX10 22 "CommutatorModel" "phase" "[I") (List.mem_of_getElem? (i := 2) rfl)) rfl (v := .ref (ad 33)) rfl dX10_isSent_9 ?_
  refine lv_iload_n hx hb dX10_isSent_12 rfl (lv_at hl 1 rfl) ?_
  refine g_iald hx hb hE hG (k := 33) (by omega) rfl k (rfl) (by omega) (by omega) dX10_isSent_13 ?_
  refine g_top (y := zI (G 33 k)) (hM 33 k (by decide) (by decide)) ?_
  refine lv_icmp_ne (tgt := 21) hx hb dX10_isSent_14 (by decide) (fun c14 => ?_) (fun c14 => ?_)
  · skip
    have c14 : ¬ ((c % G 31 k) = (G 33 k)) := fun z9 => c14 ((cmp_eq (zI_toInt (by omega) (by omega)) (zI_toInt (by omega) (by omega))).mpr z9)
    refine lv_iconst (v := nI 0) hx hb dX10_isSent_21 (by decide) ?_
    exact g_zret hx hb hr hlocks hG rfl (Or.inr ⟨rfl, rfl, rfl, by omega⟩) dX10_isSent_22
  · skip
    have c14 : (c % G 31 k) = (G 33 k) := (cmp_eq (zI_toInt (by omega) (by omega)) (zI_toInt (by omega) (by omega))).mp c14
    refine lv_iconst (v := nI 1) hx hb dX10_isSent_17 (by decide) ?_
    refine lv_goto (tgt := 22) hx hb dX10_isSent_18 (by decide) ?_
    exact g_zret hx hb hr hlocks hG rfl (Or.inl ⟨rfl, rfl, rfl, by omega⟩) dX10_isSent_22

abbrev PX10_userOf (ad : Nat → Nat) (A : Nat → Nat → Int32) (J : Nat → Nat → Int64) (G : Nat → Nat → Int) (c b : Int) : Option Value → (Nat → Nat → Int32) → (Nat → Nat → Int64) → Prop := fun v_ A1 J1 => (v_ = some (.int (zI (mUser G c b (G 28 0).toNat))) ∧ A = A1 ∧ J = J1)
set_option maxHeartbeats 4000000 in
set_option maxRecDepth 100000 in
theorem cX10_userOfC (l : Launch) (D : va_G) (cy : Nat → ClassId) (base : Nat) (ad : Nat → Nat) (n : Nat) (A : Nat → Nat → Int32) (J : Nat → Nat → Int64) (G : Nat → Nat → Int) (c b : Int) (hM : MRep A G) (hT : TsOk G) (hc : 0 ≤ c) (hc2 : c < 2147483648) (hb : -2147483648 ≤ b) (hb2 : b < 2147483648) : gMet l yX10_userOf wsX10_userOf ({ frames := 1, cells := 0, slots := 0, locals := 22 } : Room) D cy base ad n A J [.ref (ad 28), .int (zI c), .int (zI b)] (PX10_userOf ad A J G c b) := by
  refine g_ofW (cc := cX10_userOf) (maxL := 7) (ret := (some .int)) (by decide) rfl (Nat.le_of_ble_eq_true rfl) ?_
  intro p9 e9 s9 m9 a9 b9 meth9 c9 H locs ls hx hb hr hts hown hlocks hml hE hG hl
  have hl : lv_has ls 7 [(0, .ref (ad 28)), (1, .int (zI c)), (2, .int (zI b))] := hl
  have hinX10 : ∀ w ∈ u_ws RX10 TX10 35, w ∈ wsX10_userOf := by decide +kernel
  refine lv_iconst (v := zI (-1)) hx hb dX10_userOf_0 (by decide) ?_
  refine lv_istore_n (lv' := [(3, .int (zI (-1))), (0, .ref (ad 28)), (1, .int (zI c)), (2, .int (zI b))]) hx hb dX10_userOf_1 rfl hl (by decide) rfl (fun ls hl => ?_)
  refine lv_iconst (v := nI 0) hx hb dX10_userOf_2 (by decide) ?_
  refine lv_istore (lv' := [(4, .int (nI 0)), (3, .int (zI (-1))), (0, .ref (ad 28)), (1, .int (zI c)), (2, .int (zI b))]) hx hb dX10_userOf_3 hl (by decide) rfl (fun ls hl => ?_)
  have LLq5 : ∀ (fuel : Nat) (k : Nat) (hk : (k : Int) ≤ G 28 0) (_ : 12 - k < fuel) (H : Heap) (locs : List Loc) (ls : Array Slot), gH D base s9 ad (50 + 2 * n) (gw cy ad n A J) H locs → lv_has ls 7 [(0, .ref (ad 28)), (1, .int (zI c)), (2, .int (zI b)), (3, .int (zI (mUser G c b k))), (4, .int (nI k))] → W p9 l e9 ({ frames := 1, cells := 0, slots := 0, locals := 22 } : Room) s9 m9 a9 b9 meth9 c9 H locs 0 0 (MQ b9 (gPost D cy base ad n (PX10_userOf ad A J G c b)) a9 s9 0 0 (fun q => base ≤ q)) (F0 m9 5 ls []) := by
    intro fuel
    induction fuel with
    | zero => intro k hk hms H locs ls hG hl; exact absurd hms (Nat.not_lt_zero _)
    | succ fuel ihq5 =>
      intro k hk hms H locs ls hG hl
      refine lv_iload hx hb dX10_userOf_5 (lv_at hl 4 rfl) ?_
      refine lv_aload_n hx hb dX10_userOf_7 rfl (lv_at hl 0 rfl) ?_
      refine g_get (C := RX10) (T := TX10) (NN := 35) (ci := 10) hx hb hts hinX10 hown hE hG (k := 28) (by omega) rfl rfl 0 (by decide) (hts (.fieldLink RX10 81 "CommutatorModel" "points" "I") (List.mem_of_getElem? (i := 1) rfl)) rfl (v := .int (A 28 0)) rfl dX10_userOf_8 ?_
      refine g_top (y := zI (G 28 0)) (hM 28 0 (by decide) (by decide)) ?_
      refine lv_icmp_ge (tgt := 138) hx hb dX10_userOf_11 (by decide) (fun c11 => ?_) (fun c11 => ?_)
      · skip
        have c11 : (G 28 0) ≤ ((k : Nat) : Int) := (cmp_le (zI_toInt (by omega) (by omega)) (nI_toInt (by omega))).mp c11
        have hkk : k = (G 28 0).toNat := by omega
        subst hkk
        refine lv_iload_n hx hb dX10_userOf_138 rfl (lv_at hl 3 rfl) ?_
        exact g_iret hx hb hr hlocks hG ⟨rfl, rfl, rfl⟩ dX10_userOf_139
      · skip
        have c11 : ¬ ((G 28 0) ≤ ((k : Nat) : Int)) := fun z9 => c11 ((cmp_le (zI_toInt (by omega) (by omega)) (nI_toInt (by omega))).mpr z9)
        have hTk := hT.2.2 k (by omega)
        have hmu := mUser_range G c b k
        have LLq49 : ∀  (xq : Nat) (hxq : (xq = 1 ∧ (G 34 k ≤ b ∧ b < G 34 k + G 29 k)) ∨ (xq = 0 ∧ ¬ (G 34 k ≤ b ∧ b < G 34 k + G 29 k))) (H : Heap) (locs : List Loc) (ls : Array Slot), gH D base s9 ad (50 + 2 * n) (gw cy ad n A J) H locs → lv_has ls 7 [(0, .ref (ad 28)), (1, .int (zI c)), (2, .int (zI b)), (3, .int (zI (mUser G c b k))), (4, .int (nI k))] → W p9 l e9 ({ frames := 1, cells := 0, slots := 0, locals := 22 } : Room) s9 m9 a9 b9 meth9 c9 H locs 0 0 (MQ b9 (gPost D cy base ad n (PX10_userOf ad A J G c b)) a9 s9 0 0 (fun q => base ≤ q)) (F0 m9 49 ls [.int (nI xq)]) := by
          intro xq hxq H locs ls hG hl
          refine lv_istore (lv' := [(5, .int (nI xq)), (0, .ref (ad 28)), (1, .int (zI c)), (2, .int (zI b)), (3, .int (zI (mUser G c b k))), (4, .int (nI k))]) hx hb dX10_userOf_49 hl (by decide) rfl (fun ls hl => ?_)
          have LLq103 : ∀  (yq : Nat) (hyq : (yq = 1 ∧ (G 32 k = 2 ∧ 24 + G 34 k ≤ b ∧ b < 24 + G 34 k + G 29 k)) ∨ (yq = 0 ∧ ¬ (G 32 k = 2 ∧ 24 + G 34 k ≤ b ∧ b < 24 + G 34 k + G 29 k))) (H : Heap) (locs : List Loc) (ls : Array Slot), gH D base s9 ad (50 + 2 * n) (gw cy ad n A J) H locs → lv_has ls 7 [(5, .int (nI xq)), (0, .ref (ad 28)), (1, .int (zI c)), (2, .int (zI b)), (3, .int (zI (mUser G c b k))), (4, .int (nI k))] → W p9 l e9 ({ frames := 1, cells := 0, slots := 0, locals := 22 } : Room) s9 m9 a9 b9 meth9 c9 H locs 0 0 (MQ b9 (gPost D cy base ad n (PX10_userOf ad A J G c b)) a9 s9 0 0 (fun q => base ≤ q)) (F0 m9 103 ls [.int (nI yq)]) := by
            intro yq hyq H locs ls hG hl
            refine lv_istore (lv' := [(6, .int (nI yq)), (5, .int (nI xq)), (0, .ref (ad 28)), (1, .int (zI c)), (2, .int (zI b)), (3, .int (zI (mUser G c b k))), (4, .int (nI k))]) hx hb dX10_userOf_103 hl (by decide) rfl (fun ls hl => ?_)
            have LLq131 : ∀  (zq : Int) (hzq : zq = mUser G c b (k + 1)) (H : Heap) (locs : List Loc) (ls : Array Slot), gH D base s9 ad (50 + 2 * n) (gw cy ad n A J) H locs → lv_has ls 7 [(6, .int (nI yq)), (5, .int (nI xq)), (0, .ref (ad 28)), (1, .int (zI c)), (2, .int (zI b)), (3, .int (zI (mUser G c b k))), (4, .int (nI k))] → W p9 l e9 ({ frames := 1, cells := 0, slots := 0, locals := 22 } : Room) s9 m9 a9 b9 meth9 c9 H locs 0 0 (MQ b9 (gPost D cy base ad n (PX10_userOf ad A J G c b)) a9 s9 0 0 (fun q => base ≤ q)) (F0 m9 131 ls [.int (zI zq)]) := by
              intro zq hzq H locs ls hG hl
              subst hzq
              refine lv_istore_n (lv' := [(3, .int (zI (mUser G c b (k + 1)))), (6, .int (nI yq)), (5, .int (nI xq)), (0, .ref (ad 28)), (1, .int (zI c)), (2, .int (zI b)), (4, .int (nI k))]) hx hb dX10_userOf_131 rfl hl (by decide) rfl (fun ls hl => ?_)
              refine lv_iinc (v := nI (k + 1)) (lv' := [(4, .int (nI (k + 1))), (3, .int (zI (mUser G c b (k + 1)))), (6, .int (nI yq)), (5, .int (nI xq)), (0, .ref (ad 28)), (1, .int (zI c)), (2, .int (zI b))]) hx hb dX10_userOf_132 hl (k := 6) rfl (by rw [show (Int32.ofInt 1 : Int32) = nI 1 from rfl, nI_add]) (by decide) rfl (fun ls hl => ?_)
              refine lv_goto (tgt := 5) hx hb dX10_userOf_135 (by decide) ?_
              exact ihq5 (k + 1) (by omega) (by omega) _ _ _ hG (lv_sub hl [4, 5, 6, 1, 0] rfl)
            refine lv_aload_n hx hb dX10_userOf_105 rfl (lv_at hl 2 rfl) ?_
            refine lv_iload hx hb dX10_userOf_106 (lv_at hl 6 rfl) ?_
            refine lv_iload_n hx hb dX10_userOf_108 rfl (lv_at hl 3 rfl) ?_
            refine g_callV (As := [.int (nI k), .int (zI c)]) (rest := []) (r := (RX10, TX10, 35)) ⟨hx, hb, hml, hown, hts⟩ hE hG (cX10_isSentC l D cy base ad n A J _ k c (by first | assumption | omega) (by first | assumption | omega) (by first | assumption | omega) (by first | assumption | omega) (by first | assumption | omega)) (cwV 2 hts gX10_userOf_X10_isSent rfl rfl rfl (by decide +kernel) ⟨Nat.le_of_ble_eq_true rfl, Nat.le_of_ble_eq_true rfl⟩) (by omega) rfl rfl rfl hl.1 rfl (Nat.le_of_ble_eq_true rfl) dX10_userOf_109 ⟨Nat.zero_le _, Nat.zero_le _⟩ (fun v_ A109 J109 H locs hp hG => ?_)
            rcases hp with ⟨rfl, rfl, rfl, hC_109⟩ | ⟨rfl, rfl, rfl, hC_109⟩
            · refine W.eq (g2 := F0 m9 112 ls [.int (nI 1)]) rfl ?_
              refine lv_if_eq (tgt := 130) hx hb dX10_userOf_112 (by decide) (fun c112 => ?_) (fun c112 => ?_)
              · skip
                exact absurd c112 (by decide)
              · skip
                refine lv_iload hx hb dX10_userOf_115 (lv_at hl 1 rfl) ?_
                refine lv_if_ne (tgt := 125) hx hb dX10_userOf_117 (by decide) (fun c117 => ?_) (fun c117 => ?_)
                · skip
                  have c117 : ¬ ((nI xq) = nI 0) := c117
                  have c117 : ¬ (xq = 0) := fun z9 => c117 ((nI_eq (by omega) (by omega)).mpr z9)
                  refine lv_iload hx hb dX10_userOf_125 (lv_at hl 6 rfl) ?_
                  refine lv_goto (tgt := 131) hx hb dX10_userOf_127 (by decide) ?_
                  exact LLq131 ((k : Nat) : Int) (by simp only [mUser]; first | rw [if_pos (by unfold mCov; omega)] | rw [if_neg (by unfold mCov; omega)]) _ _ _ hG (lv_sub hl [0, 1, 2, 3, 4, 5, 6] rfl)
                · skip
                  have c117 : (nI xq) = nI 0 := c117
                  have c117 : xq = 0 := (nI_eq (by omega) (by omega)).mp c117
                  refine lv_iload hx hb dX10_userOf_120 (lv_at hl 0 rfl) ?_
                  refine lv_if_eq (tgt := 130) hx hb dX10_userOf_122 (by decide) (fun c122 => ?_) (fun c122 => ?_)
                  · skip
                    have c122 : (nI yq) = nI 0 := c122
                    have c122 : yq = 0 := (nI_eq (by omega) (by omega)).mp c122
                    refine lv_iload_n hx hb dX10_userOf_130 rfl (lv_at hl 5 rfl) ?_
                    exact LLq131 (mUser G c b k) (by simp only [mUser]; first | rw [if_pos (by unfold mCov; omega)] | rw [if_neg (by unfold mCov; omega)]) _ _ _ hG (lv_sub hl [0, 1, 2, 3, 4, 5, 6] rfl)
                  · skip
                    have c122 : ¬ ((nI yq) = nI 0) := c122
                    have c122 : ¬ (yq = 0) := fun z9 => c122 ((nI_eq (by omega) (by omega)).mpr z9)
                    refine lv_iload hx hb dX10_userOf_125 (lv_at hl 6 rfl) ?_
                    refine lv_goto (tgt := 131) hx hb dX10_userOf_127 (by decide) ?_
                    exact LLq131 ((k : Nat) : Int) (by simp only [mUser]; first | rw [if_pos (by unfold mCov; omega)] | rw [if_neg (by unfold mCov; omega)]) _ _ _ hG (lv_sub hl [0, 1, 2, 3, 4, 5, 6] rfl)
            · refine W.eq (g2 := F0 m9 112 ls [.int (nI 0)]) rfl ?_
              refine lv_if_eq (tgt := 130) hx hb dX10_userOf_112 (by decide) (fun c112 => ?_) (fun c112 => ?_)
              · skip
                refine lv_iload_n hx hb dX10_userOf_130 rfl (lv_at hl 5 rfl) ?_
                exact LLq131 (mUser G c b k) (by simp only [mUser]; first | rw [if_pos (by unfold mCov; omega)] | rw [if_neg (by unfold mCov; omega)]) _ _ _ hG (lv_sub hl [0, 1, 2, 3, 4, 5, 6] rfl)
              · skip
                exact absurd c112 (by decide)
          refine lv_aload_n hx hb dX10_userOf_51 rfl (lv_at hl 1 rfl) ?_
          refine g_get (C := RX10) (T := TX10) (NN := 35) (ci := 10) hx hb hts hinX10 hown hE hG (k := 28) (by omega) rfl rfl 4 (by decide) (hts (.fieldLink RX10 19 "CommutatorModel" "samplesEach" "[I") (List.mem_of_getElem? (i := 4) rfl)) rfl (v := .ref (ad 32)) rfl dX10_userOf_52 ?_
          refine lv_iload hx hb dX10_userOf_55 (lv_at hl 5 rfl) ?_
          refine g_iald hx hb hE hG (k := 32) (by omega) rfl k (rfl) (by omega) (by omega) dX10_userOf_57 ?_
          refine g_top (y := zI (G 32 k)) (hM 32 k (by decide) (by decide)) ?_
          refine lv_iconst (v := nI 2) hx hb dX10_userOf_58 (by decide) ?_
          refine lv_icmp_ne (tgt := 102) hx hb dX10_userOf_59 (by decide) (fun c59 => ?_) (fun c59 => ?_)
          · skip
            have c59 : ¬ ((G 32 k) = ((2 : Nat) : Int)) := fun z9 => c59 ((cmp_eq (zI_toInt (by omega) (by omega)) (nI_toInt (by omega))).mpr z9)
            refine lv_iconst (v := nI 0) hx hb dX10_userOf_102 (by decide) ?_
            exact LLq103 0 (by omega) _ _ _ hG (lv_sub hl [0, 1, 2, 3, 4, 5] rfl)
          · skip
            have c59 : (G 32 k) = ((2 : Nat) : Int) := (cmp_eq (zI_toInt (by omega) (by omega)) (nI_toInt (by omega))).mp c59
            refine lv_iload_n hx hb dX10_userOf_62 rfl (lv_at hl 3 rfl) ?_
            refine lv_bipush (v := nI 24) hx hb dX10_userOf_63 (by decide) ?_
            refine lv_aload_n hx hb dX10_userOf_65 rfl (lv_at hl 1 rfl) ?_
            refine g_get (C := RX10) (T := TX10) (NN := 35) (ci := 10) hx hb hts hinX10 hown hE hG (k := 28) (by omega) rfl rfl 6 (by decide) (hts (.fieldLink RX10 25 "CommutatorModel" "offset" "[I") (List.mem_of_getElem? (i := 2) rfl)) rfl (v := .ref (ad 34)) rfl dX10_userOf_66 ?_
            refine lv_iload hx hb dX10_userOf_69 (lv_at hl 5 rfl) ?_
            refine g_iald hx hb hE hG (k := 34) (by omega) rfl k (rfl) (by omega) (by omega) dX10_userOf_71 ?_
            refine g_top (y := zI (G 34 k)) (hM 34 k (by decide) (by decide)) ?_
            refine lv_iadd hx hb dX10_userOf_72 ?_
            refine g_top (y := zI (24 + (G 34 k))) (zI_add_ni _ _) ?_
            refine lv_icmp_lt (tgt := 102) hx hb dX10_userOf_73 (by decide) (fun c73 => ?_) (fun c73 => ?_)
            · skip
              have c73 : b < (24 + (G 34 k)) := (cmp_lt (zI_toInt (by omega) (by omega)) (zI_toInt (by omega) (by omega))).mp c73
              refine lv_iconst (v := nI 0) hx hb dX10_userOf_102 (by decide) ?_
              exact LLq103 0 (by omega) _ _ _ hG (lv_sub hl [0, 1, 2, 3, 4, 5] rfl)
            · skip
              have c73 : ¬ (b < (24 + (G 34 k))) := fun z9 => c73 ((cmp_lt (zI_toInt (by omega) (by omega)) (zI_toInt (by omega) (by omega))).mpr z9)
              refine lv_iload_n hx hb dX10_userOf_76 rfl (lv_at hl 3 rfl) ?_
              refine lv_bipush (v := nI 24) hx hb dX10_userOf_77 (by decide) ?_
              refine lv_aload_n hx hb dX10_userOf_79 rfl (lv_at hl 1 rfl) ?_
              refine g_get (C := RX10) (T := TX10) (NN := 35) (ci := 10) hx hb hts hinX10 hown hE hG (k := 28) (by omega) rfl rfl 6 (by decide) (hts (.fieldLink RX10 25 "CommutatorModel" "offset" "[I") (List.mem_of_getElem? (i := 2) rfl)) rfl (v := .ref (ad 34)) rfl dX10_userOf_80 ?_
              refine lv_iload hx hb dX10_userOf_83 (lv_at hl 5 rfl) ?_
              refine g_iald hx hb hE hG (k := 34) (by omega) rfl k (rfl) (by omega) (by omega) dX10_userOf_85 ?_
              refine g_top (y := zI (G 34 k)) (hM 34 k (by decide) (by decide)) ?_
              refine lv_iadd hx hb dX10_userOf_86 ?_
              refine g_top (y := zI (24 + (G 34 k))) (zI_add_ni _ _) ?_
              refine lv_aload_n hx hb dX10_userOf_87 rfl (lv_at hl 1 rfl) ?_
              refine g_get (C := RX10) (T := TX10) (NN := 35) (ci := 10) hx hb hts hinX10 hown hE hG (k := 28) (by omega) rfl rfl 1 (by decide) (hts (.fieldLink RX10 7 "CommutatorModel" "width" "[I") (List.mem_of_getElem? (i := 3) rfl)) rfl (v := .ref (ad 29)) rfl dX10_userOf_88 ?_
              refine lv_iload hx hb dX10_userOf_91 (lv_at hl 5 rfl) ?_
              refine g_iald hx hb hE hG (k := 29) (by omega) rfl k (rfl) (by omega) (by omega) dX10_userOf_93 ?_
              refine g_top (y := zI (G 29 k)) (hM 29 k (by decide) (by decide)) ?_
              refine lv_iadd hx hb dX10_userOf_94 ?_
              refine g_top (y := zI ((24 + (G 34 k)) + (G 29 k))) (zI_add _ _) ?_
              refine lv_icmp_ge (tgt := 102) hx hb dX10_userOf_95 (by decide) (fun c95 => ?_) (fun c95 => ?_)
              · skip
                have c95 : ((24 + (G 34 k)) + (G 29 k)) ≤ b := (cmp_le (zI_toInt (by omega) (by omega)) (zI_toInt (by omega) (by omega))).mp c95
                refine lv_iconst (v := nI 0) hx hb dX10_userOf_102 (by decide) ?_
                exact LLq103 0 (by omega) _ _ _ hG (lv_sub hl [0, 1, 2, 3, 4, 5] rfl)
              · skip
                have c95 : ¬ (((24 + (G 34 k)) + (G 29 k)) ≤ b) := fun z9 => c95 ((cmp_le (zI_toInt (by omega) (by omega)) (zI_toInt (by omega) (by omega))).mpr z9)
                refine lv_iconst (v := nI 1) hx hb dX10_userOf_98 (by decide) ?_
                refine lv_goto (tgt := 103) hx hb dX10_userOf_99 (by decide) ?_
                exact LLq103 1 (by omega) _ _ _ hG (lv_sub hl [0, 1, 2, 3, 4, 5] rfl)
        refine lv_iload_n hx hb dX10_userOf_14 rfl (lv_at hl 2 rfl) ?_
        refine lv_aload_n hx hb dX10_userOf_15 rfl (lv_at hl 0 rfl) ?_
        refine g_get (C := RX10) (T := TX10) (NN := 35) (ci := 10) hx hb hts hinX10 hown hE hG (k := 28) (by omega) rfl rfl 6 (by decide) (hts (.fieldLink RX10 25 "CommutatorModel" "offset" "[I") (List.mem_of_getElem? (i := 2) rfl)) rfl (v := .ref (ad 34)) rfl dX10_userOf_16 ?_
        refine lv_iload hx hb dX10_userOf_19 (lv_at hl 4 rfl) ?_
        refine g_iald hx hb hE hG (k := 34) (by omega) rfl k (rfl) (by omega) (by omega) dX10_userOf_21 ?_
        refine g_top (y := zI (G 34 k)) (hM 34 k (by decide) (by decide)) ?_
        refine lv_icmp_lt (tgt := 48) hx hb dX10_userOf_22 (by decide) (fun c22 => ?_) (fun c22 => ?_)
        · skip
          have c22 : b < (G 34 k) := (cmp_lt (zI_toInt (by omega) (by omega)) (zI_toInt (by omega) (by omega))).mp c22
          refine lv_iconst (v := nI 0) hx hb dX10_userOf_48 (by decide) ?_
          exact LLq49 0 (by omega) _ _ _ hG (lv_sub hl [0, 1, 2, 3, 4] rfl)
        · skip
          have c22 : ¬ (b < (G 34 k)) := fun z9 => c22 ((cmp_lt (zI_toInt (by omega) (by omega)) (zI_toInt (by omega) (by omega))).mpr z9)
          refine lv_iload_n hx hb dX10_userOf_25 rfl (lv_at hl 2 rfl) ?_
          refine lv_aload_n hx hb dX10_userOf_26 rfl (lv_at hl 0 rfl) ?_
          refine g_get (C := RX10) (T := TX10) (NN := 35) (ci := 10) hx hb hts hinX10 hown hE hG (k := 28) (by omega) rfl rfl 6 (by decide) (hts (.fieldLink RX10 25 "CommutatorModel" "offset" "[I") (List.mem_of_getElem? (i := 2) rfl)) rfl (v := .ref (ad 34)) rfl dX10_userOf_27 ?_
          refine lv_iload hx hb dX10_userOf_30 (lv_at hl 4 rfl) ?_
          refine g_iald hx hb hE hG (k := 34) (by omega) rfl k (rfl) (by omega) (by omega) dX10_userOf_32 ?_
          refine g_top (y := zI (G 34 k)) (hM 34 k (by decide) (by decide)) ?_
          refine lv_aload_n hx hb dX10_userOf_33 rfl (lv_at hl 0 rfl) ?_
          refine g_get (C := RX10) (T := TX10) (NN := 35) (ci := 10) hx hb hts hinX10 hown hE hG (k := 28) (by omega) rfl rfl 1 (by decide) (hts (.fieldLink RX10 7 "CommutatorModel" "width" "[I") (List.mem_of_getElem? (i := 3) rfl)) rfl (v := .ref (ad 29)) rfl dX10_userOf_34 ?_
          refine lv_iload hx hb dX10_userOf_37 (lv_at hl 4 rfl) ?_
          refine g_iald hx hb hE hG (k := 29) (by omega) rfl k (rfl) (by omega) (by omega) dX10_userOf_39 ?_
          refine g_top (y := zI (G 29 k)) (hM 29 k (by decide) (by decide)) ?_
          refine lv_iadd hx hb dX10_userOf_40 ?_
          refine g_top (y := zI ((G 34 k) + (G 29 k))) (zI_add _ _) ?_
          refine lv_icmp_ge (tgt := 48) hx hb dX10_userOf_41 (by decide) (fun c41 => ?_) (fun c41 => ?_)
          · skip
            have c41 : ((G 34 k) + (G 29 k)) ≤ b := (cmp_le (zI_toInt (by omega) (by omega)) (zI_toInt (by omega) (by omega))).mp c41
            refine lv_iconst (v := nI 0) hx hb dX10_userOf_48 (by decide) ?_
            exact LLq49 0 (by omega) _ _ _ hG (lv_sub hl [0, 1, 2, 3, 4] rfl)
          · skip
            have c41 : ¬ (((G 34 k) + (G 29 k)) ≤ b) := fun z9 => c41 ((cmp_le (zI_toInt (by omega) (by omega)) (zI_toInt (by omega) (by omega))).mpr z9)
            refine lv_iconst (v := nI 1) hx hb dX10_userOf_44 (by decide) ?_
            refine lv_goto (tgt := 49) hx hb dX10_userOf_45 (by decide) ?_
            exact LLq49 1 (by omega) _ _ _ hG (lv_sub hl [0, 1, 2, 3, 4] rfl)
  exact LLq5 _ 0 (by omega) (Nat.lt_succ_self _) _ _ _ hG (lv_sub hl [2, 3, 4, 1, 0] rfl)
end
