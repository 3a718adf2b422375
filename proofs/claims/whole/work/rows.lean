section
-- ===== PART A: goes FIRST, ahead of the names: the tables' words, and 'selects' of the private methods out of them =====
/-- a private method of a class that the tables say can be made, by its rows of tables_1 -/
def lw_okq (q : MethodName × Nat) : Prop := (q.1.cls ≠ "java/lang/invoke/MethodHandle" ∧ q.1.cls ≠ "java/lang/invoke/VarHandle") ∧ Cond.instantiable q.1.cls q.2 ∈ tables_1 ∧ Cond.privateMethod q.1 ∈ tables_1 ∧ Cond.instanceMethod q.1 ∈ tables_1
theorem lw_p0 : lw_okq (⟨"java/lang/Throwable", "fillInStackTrace", "(I)Ljava/lang/Throwable;"⟩, 6) := ⟨⟨by decide +kernel, by decide +kernel⟩, List.mem_of_getElem? (i := 327) (by decide +kernel), List.mem_of_getElem? (i := 325) (by decide +kernel), List.mem_of_getElem? (i := 326) (by decide +kernel)⟩
theorem lw_p1 : lw_okq (⟨"Commutator$PointTable", "isFree", "(JII)Z"⟩, 3) := ⟨⟨by decide +kernel, by decide +kernel⟩, List.mem_of_getElem? (i := 32) (by decide +kernel), List.mem_of_getElem? (i := 359) (by decide +kernel), List.mem_of_getElem? (i := 360) (by decide +kernel)⟩
theorem lw_p2 : lw_okq (⟨"Commutator$PointTable", "use", "(JII)V"⟩, 3) := ⟨⟨by decide +kernel, by decide +kernel⟩, List.mem_of_getElem? (i := 32) (by decide +kernel), List.mem_of_getElem? (i := 363) (by decide +kernel), List.mem_of_getElem? (i := 364) (by decide +kernel)⟩
theorem lw_p3 : lw_okq (⟨"Commutator", "existingPoint", "(I)LCommutator$Point;"⟩, 6) := ⟨⟨by decide +kernel, by decide +kernel⟩, List.mem_of_getElem? (i := 24) (by decide +kernel), List.mem_of_getElem? (i := 435) (by decide +kernel), List.mem_of_getElem? (i := 436) (by decide +kernel)⟩
theorem lw_p4 : lw_okq (⟨"Commutator$Point", "signWeight", "()I"⟩, 10) := ⟨⟨by decide +kernel, by decide +kernel⟩, List.mem_of_getElem? (i := 366) (by decide +kernel), List.mem_of_getElem? (i := 469) (by decide +kernel), List.mem_of_getElem? (i := 470) (by decide +kernel)⟩
theorem lw_p5 : lw_okq (⟨"Commutator$Sender", "packSamples", "(LCommutator$PointTable;II)V"⟩, 2) := ⟨⟨by decide +kernel, by decide +kernel⟩, List.mem_of_getElem? (i := 71) (by decide +kernel), List.mem_of_getElem? (i := 489) (by decide +kernel), List.mem_of_getElem? (i := 490) (by decide +kernel)⟩
theorem lw_p6 : lw_okq (⟨"Commutator$Synchroniser", "isSyncWord", "()Z"⟩, 7) := ⟨⟨by decide +kernel, by decide +kernel⟩, List.mem_of_getElem? (i := 85) (by decide +kernel), List.mem_of_getElem? (i := 579) (by decide +kernel), List.mem_of_getElem? (i := 580) (by decide +kernel)⟩
theorem lw_p7 : lw_okq (⟨"Commutator$Synchroniser", "latestWord", "()I"⟩, 7) := ⟨⟨by decide +kernel, by decide +kernel⟩, List.mem_of_getElem? (i := 85) (by decide +kernel), List.mem_of_getElem? (i := 583) (by decide +kernel), List.mem_of_getElem? (i := 584) (by decide +kernel)⟩
theorem lw_p8 : lw_okq (⟨"Commutator$Synchroniser", "search", "()V"⟩, 7) := ⟨⟨by decide +kernel, by decide +kernel⟩, List.mem_of_getElem? (i := 85) (by decide +kernel), List.mem_of_getElem? (i := 587) (by decide +kernel), List.mem_of_getElem? (i := 588) (by decide +kernel)⟩
theorem lw_p9 : lw_okq (⟨"Commutator$Synchroniser", "judgeSyncWord", "()V"⟩, 7) := ⟨⟨by decide +kernel, by decide +kernel⟩, List.mem_of_getElem? (i := 85) (by decide +kernel), List.mem_of_getElem? (i := 591) (by decide +kernel), List.mem_of_getElem? (i := 592) (by decide +kernel)⟩
theorem lw_p10 : lw_okq (⟨"Commutator$Synchroniser", "check", "()V"⟩, 7) := ⟨⟨by decide +kernel, by decide +kernel⟩, List.mem_of_getElem? (i := 85) (by decide +kernel), List.mem_of_getElem? (i := 595) (by decide +kernel), List.mem_of_getElem? (i := 596) (by decide +kernel)⟩
theorem lw_p11 : lw_okq (⟨"Commutator$Synchroniser", "keepLock", "()V"⟩, 7) := ⟨⟨by decide +kernel, by decide +kernel⟩, List.mem_of_getElem? (i := 85) (by decide +kernel), List.mem_of_getElem? (i := 599) (by decide +kernel), List.mem_of_getElem? (i := 600) (by decide +kernel)⟩
theorem lw_p12 : lw_okq (⟨"Commutator$Decoder", "noteLost", "(ILCommutator$PointTable;)V"⟩, 5) := ⟨⟨by decide +kernel, by decide +kernel⟩, List.mem_of_getElem? (i := 116) (by decide +kernel), List.mem_of_getElem? (i := 613) (by decide +kernel), List.mem_of_getElem? (i := 614) (by decide +kernel)⟩
theorem lw_p13 : lw_okq (⟨"Commutator$Decoder", "giveSamples", "(JLCommutator$PointTable;)V"⟩, 5) := ⟨⟨by decide +kernel, by decide +kernel⟩, List.mem_of_getElem? (i := 116) (by decide +kernel), List.mem_of_getElem? (i := 624) (by decide +kernel), List.mem_of_getElem? (i := 625) (by decide +kernel)⟩
theorem lw_p14 : lw_okq (⟨"Commutator$DerivedTable", "needsOf", "(I)I"⟩, 1) := ⟨⟨by decide +kernel, by decide +kernel⟩, List.mem_of_getElem? (i := 142) (by decide +kernel), List.mem_of_getElem? (i := 715) (by decide +kernel), List.mem_of_getElem? (i := 716) (by decide +kernel)⟩
theorem lw_p15 : lw_okq (⟨"Commutator$DerivedTable", "at", "(I)LCommutator$Derived;"⟩, 1) := ⟨⟨by decide +kernel, by decide +kernel⟩, List.mem_of_getElem? (i := 142) (by decide +kernel), List.mem_of_getElem? (i := 723) (by decide +kernel), List.mem_of_getElem? (i := 724) (by decide +kernel)⟩
def lw_privs_1 : List (MethodName × Nat) := [(⟨"java/lang/Throwable", "fillInStackTrace", "(I)Ljava/lang/Throwable;"⟩, 6), (⟨"Commutator$PointTable", "isFree", "(JII)Z"⟩, 3), (⟨"Commutator$PointTable", "use", "(JII)V"⟩, 3), (⟨"Commutator", "existingPoint", "(I)LCommutator$Point;"⟩, 6), (⟨"Commutator$Point", "signWeight", "()I"⟩, 10), (⟨"Commutator$Sender", "packSamples", "(LCommutator$PointTable;II)V"⟩, 2), (⟨"Commutator$Synchroniser", "isSyncWord", "()Z"⟩, 7), (⟨"Commutator$Synchroniser", "latestWord", "()I"⟩, 7), (⟨"Commutator$Synchroniser", "search", "()V"⟩, 7), (⟨"Commutator$Synchroniser", "judgeSyncWord", "()V"⟩, 7), (⟨"Commutator$Synchroniser", "check", "()V"⟩, 7), (⟨"Commutator$Synchroniser", "keepLock", "()V"⟩, 7), (⟨"Commutator$Decoder", "noteLost", "(ILCommutator$PointTable;)V"⟩, 5), (⟨"Commutator$Decoder", "giveSamples", "(JLCommutator$PointTable;)V"⟩, 5), (⟨"Commutator$DerivedTable", "needsOf", "(I)I"⟩, 1), (⟨"Commutator$DerivedTable", "at", "(I)LCommutator$Derived;"⟩, 1)]
theorem lw_r1 : ∀ q ∈ lw_privs_1, lw_okq q := List.forall_mem_cons.mpr ⟨lw_p0, List.forall_mem_cons.mpr ⟨lw_p1, List.forall_mem_cons.mpr ⟨lw_p2, List.forall_mem_cons.mpr ⟨lw_p3, List.forall_mem_cons.mpr ⟨lw_p4, List.forall_mem_cons.mpr ⟨lw_p5, List.forall_mem_cons.mpr ⟨lw_p6, List.forall_mem_cons.mpr ⟨lw_p7, List.forall_mem_cons.mpr ⟨lw_p8, List.forall_mem_cons.mpr ⟨lw_p9, List.forall_mem_cons.mpr ⟨lw_p10, List.forall_mem_cons.mpr ⟨lw_p11, List.forall_mem_cons.mpr ⟨lw_p12, List.forall_mem_cons.mpr ⟨lw_p13, List.forall_mem_cons.mpr ⟨lw_p14, List.forall_mem_cons.mpr ⟨lw_p15, fun _ h => absurd h List.not_mem_nil⟩⟩⟩⟩⟩⟩⟩⟩⟩⟩⟩⟩⟩⟩⟩⟩
theorem lw_p16 : lw_okq (⟨"Commutator", "resultOf", "(I)LCommutator$Reading;"⟩, 6) := ⟨⟨by decide +kernel, by decide +kernel⟩, List.mem_of_getElem? (i := 24) (by decide +kernel), List.mem_of_getElem? (i := 734) (by decide +kernel), List.mem_of_getElem? (i := 735) (by decide +kernel)⟩
theorem lw_p17 : lw_okq (⟨"Commutator$DerivedTable", "computeOne", "(LCommutator$Derived;LCommutator$PointTable;)V"⟩, 1) := ⟨⟨by decide +kernel, by decide +kernel⟩, List.mem_of_getElem? (i := 142) (by decide +kernel), List.mem_of_getElem? (i := 746) (by decide +kernel), List.mem_of_getElem? (i := 747) (by decide +kernel)⟩
theorem lw_p18 : lw_okq (⟨"Commutator$DerivedTable", "operand", "(ILCommutator$PointTable;)LCommutator$Reading;"⟩, 1) := ⟨⟨by decide +kernel, by decide +kernel⟩, List.mem_of_getElem? (i := 142) (by decide +kernel), List.mem_of_getElem? (i := 750) (by decide +kernel), List.mem_of_getElem? (i := 751) (by decide +kernel)⟩
theorem lw_p19 : lw_okq (⟨"Commutator$Derived", "operate", "(JJ)J"⟩, 5) := ⟨⟨by decide +kernel, by decide +kernel⟩, List.mem_of_getElem? (i := 149) (by decide +kernel), List.mem_of_getElem? (i := 761) (by decide +kernel), List.mem_of_getElem? (i := 762) (by decide +kernel)⟩
theorem lw_p20 : lw_okq (⟨"CommutatorModel", "firstPlace", "(III)I"⟩, 35) := ⟨⟨by decide +kernel, by decide +kernel⟩, List.mem_of_getElem? (i := 789) (by decide +kernel), List.mem_of_getElem? (i := 913) (by decide +kernel), List.mem_of_getElem? (i := 914) (by decide +kernel)⟩
theorem lw_p21 : lw_okq (⟨"CommutatorModel", "isFree", "(IIIII)Z"⟩, 35) := ⟨⟨by decide +kernel, by decide +kernel⟩, List.mem_of_getElem? (i := 789) (by decide +kernel), List.mem_of_getElem? (i := 917) (by decide +kernel), List.mem_of_getElem? (i := 918) (by decide +kernel)⟩
theorem lw_p22 : lw_okq (⟨"CommutatorModel", "userOf", "(II)I"⟩, 35) := ⟨⟨by decide +kernel, by decide +kernel⟩, List.mem_of_getElem? (i := 789) (by decide +kernel), List.mem_of_getElem? (i := 921) (by decide +kernel), List.mem_of_getElem? (i := 922) (by decide +kernel)⟩
theorem lw_p23 : lw_okq (⟨"CommutatorModel", "isSent", "(II)Z"⟩, 35) := ⟨⟨by decide +kernel, by decide +kernel⟩, List.mem_of_getElem? (i := 789) (by decide +kernel), List.mem_of_getElem? (i := 925) (by decide +kernel), List.mem_of_getElem? (i := 926) (by decide +kernel)⟩
theorem lw_p24 : lw_okq (⟨"CommutatorModel", "can", "(I)Z"⟩, 35) := ⟨⟨by decide +kernel, by decide +kernel⟩, List.mem_of_getElem? (i := 789) (by decide +kernel), List.mem_of_getElem? (i := 929) (by decide +kernel), List.mem_of_getElem? (i := 930) (by decide +kernel)⟩
theorem lw_p25 : lw_okq (⟨"CommutatorModel", "isPoint", "(I)Z"⟩, 35) := ⟨⟨by decide +kernel, by decide +kernel⟩, List.mem_of_getElem? (i := 789) (by decide +kernel), List.mem_of_getElem? (i := 941) (by decide +kernel), List.mem_of_getElem? (i := 942) (by decide +kernel)⟩
theorem lw_p26 : lw_okq (⟨"CommutatorModel", "sendWord", "()V"⟩, 35) := ⟨⟨by decide +kernel, by decide +kernel⟩, List.mem_of_getElem? (i := 789) (by decide +kernel), List.mem_of_getElem? (i := 957) (by decide +kernel), List.mem_of_getElem? (i := 958) (by decide +kernel)⟩
theorem lw_p27 : lw_okq (⟨"CommutatorModel", "coded", "(II)I"⟩, 35) := ⟨⟨by decide +kernel, by decide +kernel⟩, List.mem_of_getElem? (i := 789) (by decide +kernel), List.mem_of_getElem? (i := 961) (by decide +kernel), List.mem_of_getElem? (i := 962) (by decide +kernel)⟩
theorem lw_p28 : lw_okq (⟨"CommutatorModel", "isBit", "(I)Z"⟩, 35) := ⟨⟨by decide +kernel, by decide +kernel⟩, List.mem_of_getElem? (i := 789) (by decide +kernel), List.mem_of_getElem? (i := 977) (by decide +kernel), List.mem_of_getElem? (i := 978) (by decide +kernel)⟩
theorem lw_p29 : lw_okq (⟨"CommutatorModel", "drop", "(II)V"⟩, 35) := ⟨⟨by decide +kernel, by decide +kernel⟩, List.mem_of_getElem? (i := 789) (by decide +kernel), List.mem_of_getElem? (i := 989) (by decide +kernel), List.mem_of_getElem? (i := 990) (by decide +kernel)⟩
theorem lw_p30 : lw_okq (⟨"CommutatorModel", "takes", "(I)I"⟩, 35) := ⟨⟨by decide +kernel, by decide +kernel⟩, List.mem_of_getElem? (i := 789) (by decide +kernel), List.mem_of_getElem? (i := 997) (by decide +kernel), List.mem_of_getElem? (i := 998) (by decide +kernel)⟩
theorem lw_p31 : lw_okq (⟨"CommutatorModel", "bits", "(II)I"⟩, 35) := ⟨⟨by decide +kernel, by decide +kernel⟩, List.mem_of_getElem? (i := 789) (by decide +kernel), List.mem_of_getElem? (i := 1001) (by decide +kernel), List.mem_of_getElem? (i := 1002) (by decide +kernel)⟩
def lw_privs_2 : List (MethodName × Nat) := [(⟨"Commutator", "resultOf", "(I)LCommutator$Reading;"⟩, 6), (⟨"Commutator$DerivedTable", "computeOne", "(LCommutator$Derived;LCommutator$PointTable;)V"⟩, 1), (⟨"Commutator$DerivedTable", "operand", "(ILCommutator$PointTable;)LCommutator$Reading;"⟩, 1), (⟨"Commutator$Derived", "operate", "(JJ)J"⟩, 5), (⟨"CommutatorModel", "firstPlace", "(III)I"⟩, 35), (⟨"CommutatorModel", "isFree", "(IIIII)Z"⟩, 35), (⟨"CommutatorModel", "userOf", "(II)I"⟩, 35), (⟨"CommutatorModel", "isSent", "(II)Z"⟩, 35), (⟨"CommutatorModel", "can", "(I)Z"⟩, 35), (⟨"CommutatorModel", "isPoint", "(I)Z"⟩, 35), (⟨"CommutatorModel", "sendWord", "()V"⟩, 35), (⟨"CommutatorModel", "coded", "(II)I"⟩, 35), (⟨"CommutatorModel", "isBit", "(I)Z"⟩, 35), (⟨"CommutatorModel", "drop", "(II)V"⟩, 35), (⟨"CommutatorModel", "takes", "(I)I"⟩, 35), (⟨"CommutatorModel", "bits", "(II)I"⟩, 35)]
theorem lw_r2 : ∀ q ∈ lw_privs_2, lw_okq q := List.forall_mem_cons.mpr ⟨lw_p16, List.forall_mem_cons.mpr ⟨lw_p17, List.forall_mem_cons.mpr ⟨lw_p18, List.forall_mem_cons.mpr ⟨lw_p19, List.forall_mem_cons.mpr ⟨lw_p20, List.forall_mem_cons.mpr ⟨lw_p21, List.forall_mem_cons.mpr ⟨lw_p22, List.forall_mem_cons.mpr ⟨lw_p23, List.forall_mem_cons.mpr ⟨lw_p24, List.forall_mem_cons.mpr ⟨lw_p25, List.forall_mem_cons.mpr ⟨lw_p26, List.forall_mem_cons.mpr ⟨lw_p27, List.forall_mem_cons.mpr ⟨lw_p28, List.forall_mem_cons.mpr ⟨lw_p29, List.forall_mem_cons.mpr ⟨lw_p30, List.forall_mem_cons.mpr ⟨lw_p31, fun _ h => absurd h List.not_mem_nil⟩⟩⟩⟩⟩⟩⟩⟩⟩⟩⟩⟩⟩⟩⟩⟩
theorem lw_p32 : lw_okq (⟨"CommutatorModel", "compares", "()V"⟩, 35) := ⟨⟨by decide +kernel, by decide +kernel⟩, List.mem_of_getElem? (i := 789) (by decide +kernel), List.mem_of_getElem? (i := 1005) (by decide +kernel), List.mem_of_getElem? (i := 1006) (by decide +kernel)⟩
theorem lw_p33 : lw_okq (⟨"CommutatorModel", "decodes", "()I"⟩, 35) := ⟨⟨by decide +kernel, by decide +kernel⟩, List.mem_of_getElem? (i := 789) (by decide +kernel), List.mem_of_getElem? (i := 1009) (by decide +kernel), List.mem_of_getElem? (i := 1010) (by decide +kernel)⟩
theorem lw_p34 : lw_okq (⟨"CommutatorModel", "sample", "(II)V"⟩, 35) := ⟨⟨by decide +kernel, by decide +kernel⟩, List.mem_of_getElem? (i := 789) (by decide +kernel), List.mem_of_getElem? (i := 1013) (by decide +kernel), List.mem_of_getElem? (i := 1014) (by decide +kernel)⟩
theorem lw_p35 : lw_okq (⟨"CommutatorModel", "read", "(II)I"⟩, 35) := ⟨⟨by decide +kernel, by decide +kernel⟩, List.mem_of_getElem? (i := 789) (by decide +kernel), List.mem_of_getElem? (i := 1017) (by decide +kernel), List.mem_of_getElem? (i := 1018) (by decide +kernel)⟩
theorem lw_p36 : lw_okq (⟨"CommutatorModel", "hasSample", "(I)Z"⟩, 35) := ⟨⟨by decide +kernel, by decide +kernel⟩, List.mem_of_getElem? (i := 789) (by decide +kernel), List.mem_of_getElem? (i := 1049) (by decide +kernel), List.mem_of_getElem? (i := 1050) (by decide +kernel)⟩
theorem lw_p37 : lw_okq (⟨"CommutatorModel", "comesTo", "(III)Z"⟩, 35) := ⟨⟨by decide +kernel, by decide +kernel⟩, List.mem_of_getElem? (i := 789) (by decide +kernel), List.mem_of_getElem? (i := 1072) (by decide +kernel), List.mem_of_getElem? (i := 1073) (by decide +kernel)⟩
theorem lw_p38 : lw_okq (⟨"CommutatorModel", "isDerived", "(I)Z"⟩, 35) := ⟨⟨by decide +kernel, by decide +kernel⟩, List.mem_of_getElem? (i := 789) (by decide +kernel), List.mem_of_getElem? (i := 1080) (by decide +kernel), List.mem_of_getElem? (i := 1081) (by decide +kernel)⟩
theorem lw_p39 : lw_okq (⟨"CommutatorModel", "derives", "()V"⟩, 35) := ⟨⟨by decide +kernel, by decide +kernel⟩, List.mem_of_getElem? (i := 789) (by decide +kernel), List.mem_of_getElem? (i := 1084) (by decide +kernel), List.mem_of_getElem? (i := 1085) (by decide +kernel)⟩
theorem lw_p40 : lw_okq (⟨"CommutatorModel", "hasValue", "(I)Z"⟩, 35) := ⟨⟨by decide +kernel, by decide +kernel⟩, List.mem_of_getElem? (i := 789) (by decide +kernel), List.mem_of_getElem? (i := 1088) (by decide +kernel), List.mem_of_getElem? (i := 1089) (by decide +kernel)⟩
theorem lw_p41 : lw_okq (⟨"CommutatorModel", "valueOf", "(I)I"⟩, 35) := ⟨⟨by decide +kernel, by decide +kernel⟩, List.mem_of_getElem? (i := 789) (by decide +kernel), List.mem_of_getElem? (i := 1092) (by decide +kernel), List.mem_of_getElem? (i := 1093) (by decide +kernel)⟩
theorem lw_p42 : lw_okq (⟨"CommutatorModel", "timeOf", "(I)I"⟩, 35) := ⟨⟨by decide +kernel, by decide +kernel⟩, List.mem_of_getElem? (i := 789) (by decide +kernel), List.mem_of_getElem? (i := 1101) (by decide +kernel), List.mem_of_getElem? (i := 1102) (by decide +kernel)⟩
theorem lw_p43 : lw_okq (⟨"CommutatorModel", "matchesAt", "(I)I"⟩, 35) := ⟨⟨by decide +kernel, by decide +kernel⟩, List.mem_of_getElem? (i := 789) (by decide +kernel), List.mem_of_getElem? (i := 1113) (by decide +kernel), List.mem_of_getElem? (i := 1114) (by decide +kernel)⟩
def lw_privs_3 : List (MethodName × Nat) := [(⟨"CommutatorModel", "compares", "()V"⟩, 35), (⟨"CommutatorModel", "decodes", "()I"⟩, 35), (⟨"CommutatorModel", "sample", "(II)V"⟩, 35), (⟨"CommutatorModel", "read", "(II)I"⟩, 35), (⟨"CommutatorModel", "hasSample", "(I)Z"⟩, 35), (⟨"CommutatorModel", "comesTo", "(III)Z"⟩, 35), (⟨"CommutatorModel", "isDerived", "(I)Z"⟩, 35), (⟨"CommutatorModel", "derives", "()V"⟩, 35), (⟨"CommutatorModel", "hasValue", "(I)Z"⟩, 35), (⟨"CommutatorModel", "valueOf", "(I)I"⟩, 35), (⟨"CommutatorModel", "timeOf", "(I)I"⟩, 35), (⟨"CommutatorModel", "matchesAt", "(I)I"⟩, 35)]
theorem lw_r3 : ∀ q ∈ lw_privs_3, lw_okq q := List.forall_mem_cons.mpr ⟨lw_p32, List.forall_mem_cons.mpr ⟨lw_p33, List.forall_mem_cons.mpr ⟨lw_p34, List.forall_mem_cons.mpr ⟨lw_p35, List.forall_mem_cons.mpr ⟨lw_p36, List.forall_mem_cons.mpr ⟨lw_p37, List.forall_mem_cons.mpr ⟨lw_p38, List.forall_mem_cons.mpr ⟨lw_p39, List.forall_mem_cons.mpr ⟨lw_p40, List.forall_mem_cons.mpr ⟨lw_p41, List.forall_mem_cons.mpr ⟨lw_p42, List.forall_mem_cons.mpr ⟨lw_p43, fun _ h => absurd h List.not_mem_nil⟩⟩⟩⟩⟩⟩⟩⟩⟩⟩⟩⟩
def lw_privs : List (MethodName × Nat) := lw_privs_1 ++ (lw_privs_2 ++ (lw_privs_3))
def lw_tbl : List Cond := k2_sels lw_privs ++ tables_1
theorem lw_privs_ok : ∀ q ∈ lw_privs, lw_okq q := by
  show ∀ q ∈ lw_privs_1 ++ (lw_privs_2 ++ (lw_privs_3)), lw_okq q
  exact List.forall_mem_append.mpr ⟨lw_r1, List.forall_mem_append.mpr ⟨lw_r2, lw_r3⟩⟩
end
section
/-! ===== BEGIN words of one list among another's, by their places ===== -/
theorem goodIn_r {big : List Cond} (ws : List Cond) (ps : List Nat) (hp : ws = ps.filterMap (fun i => big[i]?)) (h : ws.all goodWord = true) : GoodIn big ws := by
  intro w hw
  have h1 := List.all_eq_true.mp h w hw
  rw [hp] at hw
  obtain ⟨i, -, hi⟩ := List.mem_filterMap.mp hw
  have hm : w ∈ big := by first | exact List.mem_of_getElem? hi | exact List.getElem?_mem hi
  exact ⟨hm, good_of_word h1⟩
theorem goodIn_app {big a b : List Cond} (ha : GoodIn big a) (hb : GoodIn big b) : GoodIn big (a ++ b) := fun w h => (List.mem_append.mp h).elim (ha w) (hb w)
theorem goodIn_ca {big a b : List Cond} {c : Cond} (ha : GoodIn big (c :: a)) (hb : GoodIn big b) : GoodIn big (c :: (a ++ b)) := fun w h => (List.mem_cons.mp h).elim (fun e => ha w (List.mem_cons.mpr (Or.inl e))) (fun h => (List.mem_append.mp h).elim (fun h => ha w (List.mem_cons.mpr (Or.inr h))) (hb w))
theorem goodIn_sub {big ws : List Cond} (hm : ∀ w ∈ ws, w ∈ big) (h : ws.all goodWord = true) : GoodIn big ws := fun w hw => ⟨hm w hw, good_of_word (List.all_eq_true.mp h w hw)⟩
/-! ===== END ===== -/

/-! ===== BEGIN exceptions that leave a method, and their catching by the caller (launches without stack traces) ===== -/
section VXA
/-! The laws vx_back, vx_callV, vx_callS, vx_callSW, vx_throw0, vx_throwS follow proofs of the library, with one case more: JvmDerived/Free/Laws.lean (Back.of_free), Shelf42/LK1.lean (callV, callS), Shelf/KitTraced.lean (throwNew0V, throwNewS). -/
/-- where a method has thrown q: the class by its name, the cell, what was written, the world -/
def vx_T (XC : String → State → State → Prop) (st : State) (q : Addr) (t : State) (mc ms : Nat) (free : Addr → Prop) : Prop :=
  ∃ (E : String) (ce : Cell) (L : List Loc), XC E st t ∧ t.heap[q]? = some ce ∧ ce.vm = .none ∧ st.vm.findClass E = some ce.cls ∧ st.WarmedH t.vm ∧ st.sameButNew ({ t with vm := st.vm } : State) L mc ms ∧ ∀ z ∈ L, free z.base
def vx_Q (Qc : Array Value → State → Outcome → State → Prop) (XC : String → State → State → Prop) (mc ms : Nat) (free : Addr → Prop) : Array Value → State → Outcome → State → Prop := fun a st o t =>
  (Qc a st o t ∧ ∃ L, FrameEnd st o t L mc ms ∧ ∀ q ∈ L, free q.base) ∨ ∃ q, o = .threw q ∧ vx_T XC st q t mc ms free
/-- a callee that returns or throws -/
def vx_Met (l : Launch) (y : MethodName) (ws : List Cond) (rm : Room) (Pc : Array Value → State → Prop) (Qc : Array Value → State → Outcome → State → Prop) (XC : String → State → State → Prop) (mc ms : Nat) (free : Addr → Prop) : Prop :=
  MetFree l y (headSpec ws rm) Pc (fun _ _ _ _ _ => True) (vx_Q Qc XC mc ms free)
def vx_Post (XC : String → State → State → Prop) (mc ms : Nat) (free : Addr → Prop) : Pt → Array Value → Addr → Pt → Prop := fun A a q B =>
  ∃ (g : JFrame) (mk : MethodId) (t : State) (L : List Loc) (E : String) (ce : Cell), B.U.heap = t.heap ∧ B.U.vm = t.vm ∧ XC E (A.U.calling g mk a) t ∧ t.heap[q]? = some ce ∧ ce.vm = .none ∧ A.U.vm.findClass E = some ce.cls ∧ B.locs = A.locs ++ L ∧ (∀ z ∈ L, free z.base) ∧ B.cells = A.cells + mc ∧ B.slots = A.slots + ms
def vx_Back (l : Launch) (R : Room) (p : Program) (e : Env) (below : List Frame) (s : State) (sargs : Array Value) (y : MethodName) (len W9 : Nat)
    (Pre : Pt → Array Value → Prop) (Post : Pt → Array Value → Option Value → Pt → Prop) (PostX : Pt → Array Value → Addr → Pt → Prop) : Prop :=
  ∀ (m : MethodId) (meth : Method) (c : Code) (A : Pt) (g : JFrame) (ig : Instr) (mk : MethodId) (a : Array Value),
    Stand p l e R s m sargs below meth c A.U A.locs A.cells A.slots → g.method = m → g.locals.size = c.maxLocals → decode c.code g.pc = .ok (ig, len) →
    2 * g.monitorRoom + (g.stack.map fun v => v.category).sum ≤ W9 → A.U.methodNamed? y = some mk → Pre A a →
    (∃ (v : Option Value) (B : Pt), Stand p l e R s m sargs below meth c B.U B.locs B.cells B.slots ∧ Post A a v B ∧
      Steps p.tables e below (doInvoke e (A.U.setTop g) [] mk a).1 (B.U.setTop { g with pc := g.pc + len, stack := v.toList ++ g.stack })) ∨
    (∃ (q : Addr) (B : Pt), Stand p l e R s m sargs below meth c B.U B.locs B.cells B.slots ∧ PostX A a q B ∧
      Steps p.tables e below (doInvoke e (A.U.setTop g) [] mk a).1 ((B.U.setTop g).pushFrame (.throwing q)))
section Payer
variable {l : Launch} {R : Room} {p : Program} {e : Env} {below : List Frame} {s : State} {sargs : Array Value} {y : MethodName} {len W9 : Nat}
theorem vx_back {ws : List Cond} {rm : Room} {Pc : Array Value → State → Prop} {Qc : Array Value → State → Outcome → State → Prop} {XC : String → State → State → Prop} {mc ms : Nat} {free : Addr → Prop} {bytes : ByteArray} {maxL : Nat} {ret : Option FieldType}
    (hM : vx_Met l y ws rm Pc Qc XC mc ms free) (hblind : FrameBlind Pc) (hrc : rm.cells = mc) (hrs : rm.slots = ms)
    (hframes : rm.frames + 1 ≤ R.frames) (hlocals : W9 + (maxL + 11) + rm.locals ≤ R.locals)
    (hws : ∀ w ∈ ws, ∀ a' U, s.WarmedH U.vm → w.before a' U = true) (hcode : Cond.code y bytes maxL ret ∈ ws) (hinit : ∀ a' U, s.WarmedH U.vm → (Cond.initialized y.cls).before a' U = true) :
    vx_Back l R p e below s sargs y len W9 (PreOf R mc ms Pc) (PostOf Qc mc ms free) (vx_Post XC mc ms free) := by
  intro m meth c A g ig mk a X hg hsize hdg hW hn hp
  have h1 : (headSpec ws rm).pre.before a A.U = true := atoms_intro fun w hw => hws w hw _ _ X.warmed
  have h2 : (Cond.code y bytes maxL ret).before a A.U = true := hws _ hcode _ _ X.warmed
  have h3 : (Cond.initialized y.cls).before a A.U = true := hinit _ _ X.warmed
  have h4 : A.cells + (headSpec ws rm).room.cells ≤ R.cells := by rw [show (headSpec ws rm).room.cells = mc from hrc]; exact hp.1
  have h5 : A.slots + (headSpec ws rm).room.slots ≤ R.slots := by rw [show (headSpec ws rm).room.slots = ms from hrs]; exact hp.2.1
  have hPc : Pc a (A.U.calling g mk a) := hblind _ _ _ _ hp.2.2
  obtain ⟨U, Ls, c0, s0⟩ := A
  dsimp only [Pt.U, Pt.locs, Pt.cells, Pt.slots] at h1 h2 h3 h4 h5 X hn hPc ⊢
  obtain ⟨methY, cY, hmY, hcY, -, hlY, -, -, -, -⟩ := Cond.code_spec hn h2
  obtain ⟨kY, hkY, -⟩ := className_of_methodNamed hn
  have hinitY : kY.init = .initialized := Cond.initialized_spec (findClass_of_methodNamed hn) hkY h3
  have h : At U g.method c below := by rw [hg]; exact X.here
  have hlocals9 : W9 + (maxL + 11) + (headSpec ws rm).room.locals ≤ R.locals := hlocals
  have happ : (headSpec ws rm).appliesLoose y e.platform (U.calling g mk a) = true :=
    Spec.appliesLoose_calling (g := g) h hdg hn hkY hinitY
      (X.room_calling (g := g) (R' := (headSpec ws rm).room) hsize hmY hcY hframes (by rw [hlY]; omega) h4 h5) h1
  obtain ⟨mid, hmid⟩ := h.above
  have hfr : (U.setTop g).frames = (.java g :: mid) ++ below := by rw [State.frames_setTop' g h.top, hmid]; rfl
  obtain ⟨o, s₂, hsteps, -, hend, hq⟩ := Steps.callFree hM p X.admits X.cas X.clock (acts := []) hfr happ hPc trivial
  have hq' : vx_Q Qc XC mc ms free a (U.calling g mk a) o s₂ := hq
  rw [State.frames_setTop' g h.top] at hend
  obtain ⟨g₀, hg0⟩ := Option.isSome_iff_exists.mp h.top
  obtain ⟨r, hr⟩ := State.topJava?_eq_some.mp hg0
  have hr' : (({ U with heap := s₂.heap, slotsUsed := s₂.slotsUsed } : State).setVm s₂.vm).frames = .java g₀ :: r := hr
  rcases hq' with ⟨hqc, L, hfe, hL⟩ | ⟨q, rfl, E, ce, L, hx, hce, hcv, hcl, hW₂, hsm, hL⟩
  · obtain ⟨⟨v, rfl⟩, hW₂, e2, q2, q3, q4, q5, q6⟩ := id hfe
    have e3 : s₂ = ({ (U.calling g mk a).setFrames s₂.frames with heap := s₂.heap, slotsUsed := s₂.slotsUsed } : State).setVm s₂.vm := by
      have : s₂ = ({ s₂ with vm := (U.calling g mk a).vm } : State).setVm s₂.vm := rfl
      rw [e2] at this
      exact this
    obtain ⟨c₂, i₂, len₂, hc₂, hd₂, hf₂⟩ := hend
    have hW' : U.WarmedH s₂.vm := hW₂
    have hcc : c₂ = c := by
      have h1 : s₂.code? g.method = U.code? g.method := by
        rw [State.code?_eq, State.code?_eq, hW'.alike.method?]
      exact Option.some.inj (hc₂.symm.trans (h1.trans h.code))
    subst hcc
    have hlen : len₂ = len := by rw [hdg] at hd₂; cases hd₂; rfl
    subst hlen
    have hs₂ : s₂ = (({ U with heap := s₂.heap, slotsUsed := s₂.slotsUsed } : State).setVm s₂.vm).setTop { g with pc := g.pc + len₂, stack := v.toList ++ g.stack } := by
      refine e3.trans ?_
      rw [hf₂, State.calling_eq h.top, State.setFrames_setFrames, State.setTop_of_frames _ hr', hr]
      rfl
    have hsame : U.sameButNew ({ U with heap := s₂.heap, slotsUsed := s₂.slotsUsed } : State) L mc ms := by
      refine ⟨?_, q2, q3, q4, q5, q6⟩
      obtain ⟨t, ht, -⟩ := State.frames_cons hr
      show ({ U with heap := s₂.heap, slotsUsed := s₂.slotsUsed } : State) = { U.setFrames U.frames with heap := s₂.heap, slotsUsed := s₂.slotsUsed }
      rw [State.setFrames_self ht]
    subst hg
    refine Or.inl ⟨v, ⟨(({ U with heap := s₂.heap, slotsUsed := s₂.slotsUsed } : State).setVm s₂.vm), Ls ++ L, c0 + mc, s0 + ms⟩,
      ⟨X.admits, X.cas, X.clock, X.frames, X.room, X.hears, X.method, X.code, (X.here.setHeapUsed s₂.heap s₂.slotsUsed).setVm hW'.alike, X.tail, State.WarmedH.trans X.warmed hW', X.limits, X.bytes, X.same.trans (hsame.setVm s.vm)⟩,
      ⟨g, mk, s₂, L, rfl, rfl, hqc, rfl, hL, rfl, rfl⟩, ?_⟩
    show Steps p.tables e below _ ((({ U with heap := s₂.heap, slotsUsed := s₂.slotsUsed } : State).setVm s₂.vm).setTop { g with pc := g.pc + len₂, stack := v.toList ++ g.stack })
    rw [← hs₂]
    exact hsteps
  · obtain ⟨e2, q2, q3, q4, q5, q6⟩ := id hsm
    have e3 : s₂ = ({ (U.calling g mk a).setFrames s₂.frames with heap := s₂.heap, slotsUsed := s₂.slotsUsed } : State).setVm s₂.vm := by
      have : s₂ = ({ s₂ with vm := (U.calling g mk a).vm } : State).setVm s₂.vm := rfl
      rw [e2] at this
      exact this
    have hf₂ : s₂.frames = .throwing q :: .java g :: U.frames.tail := hend
    have hW' : U.WarmedH s₂.vm := hW₂
    have hs₂ : s₂ = ((({ U with heap := s₂.heap, slotsUsed := s₂.slotsUsed } : State).setVm s₂.vm).setTop g).pushFrame (.throwing q) := by
      refine e3.trans ?_
      rw [hf₂, State.calling_eq h.top, State.setFrames_setFrames, State.pushFrame, State.frames_setTop _ hr', State.setTop_of_frames _ hr', State.setFrames_setFrames, hr]
      rfl
    have hsame : U.sameButNew ({ U with heap := s₂.heap, slotsUsed := s₂.slotsUsed } : State) L mc ms := by
      refine ⟨?_, q2, q3, q4, q5, q6⟩
      obtain ⟨t, ht, -⟩ := State.frames_cons hr
      show ({ U with heap := s₂.heap, slotsUsed := s₂.slotsUsed } : State) = { U.setFrames U.frames with heap := s₂.heap, slotsUsed := s₂.slotsUsed }
      rw [State.setFrames_self ht]
    subst hg
    refine Or.inr ⟨q, ⟨(({ U with heap := s₂.heap, slotsUsed := s₂.slotsUsed } : State).setVm s₂.vm), Ls ++ L, c0 + mc, s0 + ms⟩,
      ⟨X.admits, X.cas, X.clock, X.frames, X.room, X.hears, X.method, X.code, (X.here.setHeapUsed s₂.heap s₂.slotsUsed).setVm hW'.alike, X.tail, State.WarmedH.trans X.warmed hW', X.limits, X.bytes, X.same.trans (hsame.setVm s.vm)⟩,
      ⟨g, mk, s₂, L, E, ce, rfl, rfl, hx, hce, hcv, hcl, rfl, hL, rfl, rfl⟩, ?_⟩
    show Steps p.tables e below _ (((({ U with heap := s₂.heap, slotsUsed := s₂.slotsUsed } : State).setVm s₂.vm).setTop g).pushFrame (.throwing q))
    rw [← hs₂]
    exact hsteps
end Payer
section Calls
variable {p : Program} {l : Launch} {e : Env} {R : Room} {s : State} {m : MethodId} {args : Array Value} {below : List Frame} {meth : Method} {c : Code} {T : State} {locs : List Loc} {cells slots : Nat}
theorem vx_callV (X : Stand p l e R s m args below meth c T locs cells slots) (hexec : p.tables.exec = Jvm.exec) {own C : String} {index : Nat} {y : MethodName} {bytes : ByteArray} {maxL : Nat} {ret : Option FieldType}
    (hown : s.vm.findClass own = some m.cls) (hlink : (Cond.methodLink own index y).before args s = true) (hinst : (Cond.instanceMethod y).before args s = true) (hsel : (Cond.selects C y y).before args s = true)
    (hcode : (Cond.code y bytes maxL ret).before args s = true) (hy : y.cls ≠ "java/lang/invoke/MethodHandle" ∧ y.cls ≠ "java/lang/invoke/VarHandle")
    {W9 : Nat} {Pre : Pt → Array Value → Prop} {Post : Pt → Array Value → Option Value → Pt → Prop} {PostX : Pt → Array Value → Addr → Pt → Prop} (hK : vx_Back l R p e below s args y 3 W9 Pre Post PostX)
    {b : Addr} {cellB : Cell} (hcell : T.heap[b]? = some cellB) (hobj : cellB.vm.isStatics = false) (hcls : s.vm.findClass C = some cellB.cls)
    {g : JFrame} (hg : g.method = m) (hsize : g.locals.size = c.maxLocals) {argsL rest : List Value} (hlen : ∀ sig, parseMethodDescriptor y.desc = some sig → argsL.length = sig.parameters.length)
    (hstack : g.stack = argsL.reverse ++ .ref b :: rest) (hW : 2 * g.monitorRoom + (rest.map fun v => v.category).sum ≤ W9) (hdg : decode c.code g.pc = .ok (.invokevirtual index, 3))
    (hpre : ∀ vm₁, s.WarmedH vm₁ → Pre ⟨T.setVm vm₁, locs, cells, slots⟩ (Value.ref b :: argsL).toArray) :
    (∃ (v : Option Value) (vm₁ : Vm) (B : Pt), s.WarmedH vm₁ ∧ Stand p l e R s m args below meth c B.U B.locs B.cells B.slots ∧ Post ⟨T.setVm vm₁, locs, cells, slots⟩ (Value.ref b :: argsL).toArray v B ∧
      ∀ target, Steps p.tables e below (B.U.setTop { g with pc := g.pc + 3, stack := v.toList ++ rest }) target → Steps p.tables e below (T.setTop g) target) ∨
    (∃ (q : Addr) (vm₁ : Vm) (B : Pt), s.WarmedH vm₁ ∧ Stand p l e R s m args below meth c B.U B.locs B.cells B.slots ∧ PostX ⟨T.setVm vm₁, locs, cells, slots⟩ (Value.ref b :: argsL).toArray q B ∧
      Steps p.tables e below (T.setTop g) ((B.U.setTop { g with stack := rest }).pushFrame (.throwing q))) := by
  obtain ⟨mk, methM, hnamed, hmethM, hstM, habM⟩ := Cond.instanceMethod_spec hinst
  obtain ⟨methM', cM, hmethM', -, -, -, -, -, -, hsigM⟩ := Cond.code_spec hnamed hcode
  cases hmethM.symm.trans hmethM'
  obtain ⟨c2, r2, m2, q1, q2, q3, q4, kP, hkP, hkPi⟩ := Cond.selects_spec hsel
  cases hcls.symm.trans q1
  cases (State.methodFound?_of_named hnamed hy).symm.trans q2
  cases hnamed.symm.trans q3
  have hselP : selectMethod e.platform s.vm cellB.cls mk = .method mk := by rw [Launch.admits_selectMethod X.admits]; exact q4
  obtain ⟨vm₁, X₁, hstep₁⟩ := X.invokevirtual hexec hown hlink hnamed hmethM hstM hkP hkPi hy (a := b) (cell := cellB) hcell
    (fun z h => by rw [h] at hobj; cases hobj) hselP hmethM habM hkP hkPi (g := g) hg (argsL := argsL) (rest := rest) (hlen _ hsigM) hstack hdg
  rcases hK m meth c ⟨T.setVm vm₁, locs, cells, slots⟩ { g with stack := rest } (.invokevirtual index) mk (Value.ref b :: argsL).toArray X₁ hg hsize hdg hW (X₁.named hnamed) (hpre vm₁ X₁.warmed) with ⟨v, B, X', hpost, hsteps⟩ | ⟨q, B, X', hpost, hsteps⟩
  · exact Or.inl ⟨v, vm₁, B, X₁.warmed, X', hpost, fun target h => hstep₁ _ fun acts => by rw [doInvoke_state]; exact hsteps.trans h⟩
  · exact Or.inr ⟨q, vm₁, B, X₁.warmed, X', hpost, hstep₁ _ fun acts => by rw [doInvoke_state]; exact hsteps⟩
theorem vx_callS (X : Stand p l e R s m args below meth c T locs cells slots) (hexec : p.tables.exec = Jvm.exec) {own : String} {index : Nat} {y : MethodName} {bytes : ByteArray} {maxL : Nat} {ret : Option FieldType}
    (hown : s.vm.findClass own = some m.cls) (hlink : (Cond.methodLink own index y).before args s = true) (hstat : (Cond.static y).before args s = true) (hinit : (Cond.initialized y.cls).before args s = true)
    (hcode : (Cond.code y bytes maxL ret).before args s = true) (hy : y.cls ≠ "java/lang/invoke/MethodHandle" ∧ y.cls ≠ "java/lang/invoke/VarHandle")
    {W9 : Nat} {Pre : Pt → Array Value → Prop} {Post : Pt → Array Value → Option Value → Pt → Prop} {PostX : Pt → Array Value → Addr → Pt → Prop} (hK : vx_Back l R p e below s args y 3 W9 Pre Post PostX)
    {g : JFrame} (hg : g.method = m) (hsize : g.locals.size = c.maxLocals) {argsL rest : List Value} (hlen : ∀ sig, parseMethodDescriptor y.desc = some sig → argsL.length = sig.parameters.length)
    (hstack : g.stack = argsL.reverse ++ rest) (hW : 2 * g.monitorRoom + (rest.map fun v => v.category).sum ≤ W9) (hdg : decode c.code g.pc = .ok (.invokestatic index, 3))
    (hpre : ∀ vm₁, s.WarmedH vm₁ → Pre ⟨T.setVm vm₁, locs, cells, slots⟩ argsL.toArray) :
    (∃ (v : Option Value) (vm₁ : Vm) (B : Pt), s.WarmedH vm₁ ∧ Stand p l e R s m args below meth c B.U B.locs B.cells B.slots ∧ Post ⟨T.setVm vm₁, locs, cells, slots⟩ argsL.toArray v B ∧
      ∀ target, Steps p.tables e below (B.U.setTop { g with pc := g.pc + 3, stack := v.toList ++ rest }) target → Steps p.tables e below (T.setTop g) target) ∨
    (∃ (q : Addr) (vm₁ : Vm) (B : Pt), s.WarmedH vm₁ ∧ Stand p l e R s m args below meth c B.U B.locs B.cells B.slots ∧ PostX ⟨T.setVm vm₁, locs, cells, slots⟩ argsL.toArray q B ∧
      Steps p.tables e below (T.setTop g) ((B.U.setTop { g with stack := rest }).pushFrame (.throwing q))) := by
  obtain ⟨mk, hnamed⟩ := Cond.code_named hcode
  obtain ⟨methM, cM, hmethM, -, -, -, -, -, -, hsigM⟩ := Cond.code_spec hnamed hcode
  have hstatic : methM.isStatic = true := Cond.static_spec hnamed hmethM hstat
  obtain ⟨kP, hkP, -⟩ := className_of_methodNamed hnamed
  have hinitP : kP.init = .initialized := Cond.initialized_spec (findClass_of_methodNamed hnamed) hkP hinit
  obtain ⟨vm₁, X₁, hstep₁⟩ := X.invokestatic hexec hown hlink hnamed hmethM hstatic hkP hinitP hy (g := g) hg (argsL := argsL) (rest := rest) (hlen _ hsigM) hstack hdg
  rcases hK m meth c ⟨T.setVm vm₁, locs, cells, slots⟩ { g with stack := rest } (.invokestatic index) mk argsL.toArray X₁ hg hsize hdg hW (X₁.named hnamed) (hpre vm₁ X₁.warmed) with ⟨v, B, X', hpost, hsteps⟩ | ⟨q, B, X', hpost, hsteps⟩
  · exact Or.inl ⟨v, vm₁, B, X₁.warmed, X', hpost, fun target h => hstep₁ _ fun acts => by rw [doInvoke_state]; exact hsteps.trans h⟩
  · exact Or.inr ⟨q, vm₁, B, X₁.warmed, X', hpost, hstep₁ _ fun acts => by rw [doInvoke_state]; exact hsteps⟩
end Calls
theorem vx_cls {s : State} {T : State} {vm₁ : Vm} {E : String} {k : ClassId} (hW : s.WarmedH vm₁) (h : (T.setVm vm₁).vm.findClass E = some k) : s.vm.findClass E = some k := by
  have h1 : vm₁.findClass E = some k := h
  rw [hW.alike.findClass] at h1
  exact h1
/-- the method's frame g, with q thrown over it -/
def vx_W (p : Program) (l : Launch) (e : Env) (R : Room) (s : State) (m : MethodId) (args : Array Value) (below : List Frame) (meth : Method) (c : Code) (H : Heap) (locs : List Loc) (cells slots : Nat) (Q : State → Prop) (g : JFrame) (q : Addr) : Prop :=
  ∀ T : State, T.heap = H → Stand p l e R s m args below meth c T locs cells slots → ∃ t, Steps p.tables e below ((T.setTop g).pushFrame (.throwing q)) t ∧ Q t
def vx_Run (p : Program) (l : Launch) (e : Env) (R : Room) (s : State) (m : MethodId) (args : Array Value) (below : List Frame) (meth : Method) (c : Code) (H : Heap) (locs : List Loc) (cells slots mc ms : Nat) (g : JFrame) (rest : List Value) (Qa : State → Outcome → State → Prop) (XC : String → State → State → Prop) (free : Addr → Prop) : Prop :=
  ∀ T : State, T.heap = H → Stand p l e R s m args below meth c T locs cells slots →
    (∃ (v : Option Value) (st₀ t T' : State) (L : List Loc), st₀.heap = H ∧ Stand p l e R s m args below meth c T' (locs ++ L) (cells + mc) (slots + ms) ∧ (∀ q ∈ L, free q.base) ∧ T'.heap = t.heap ∧ T'.vm = t.vm ∧ Qa st₀ (.returned v) t ∧
      Goes p e below T g T' { g with pc := g.pc + 3, stack := v.toList ++ rest }) ∨
    (∃ (q : Addr) (st₀ t T' : State) (L : List Loc) (E : String) (ce : Cell), st₀.heap = H ∧ Stand p l e R s m args below meth c T' (locs ++ L) (cells + mc) (slots + ms) ∧ (∀ z ∈ L, free z.base) ∧ T'.heap = t.heap ∧ T'.vm = t.vm ∧ XC E st₀ t ∧ t.heap[q]? = some ce ∧ ce.vm = .none ∧ s.vm.findClass E = some ce.cls ∧
      Steps p.tables e below (T.setTop g) ((T'.setTop { g with stack := rest }).pushFrame (.throwing q)))
def vx_X {S : Type} (px : S → Prop) (B : String → S → State → Prop) (A : Nat → Prop) : String → State → State → Prop := fun E st t => ∃ u : S, px u ∧ B E u t ∧ va_F A st t
section Runs
variable {p : Program} {l : Launch} {e : Env} {R : Room} {s : State} {m : MethodId} {args : Array Value} {below : List Frame} {meth : Method} {c : Code} {H : Heap} {locs : List Loc} {cells slots : Nat}
variable {y : MethodName} {bytes cc : ByteArray} {maxL nL mc ms n index : Nat} {ret : Option FieldType} {ws : List Cond} {rm : Room} {Pc : Array Value → State → Prop} {Qc : Array Value → State → Outcome → State → Prop} {XC : String → State → State → Prop} {free : Addr → Prop} {Ts : List Cond} {own C : String} {b : Addr} {As rest : List Value} {g : JFrame}
theorem vx_callBack (cb : CallB R s args own index y bytes maxL ret ws rm mc ms n) (hM : vx_Met l y ws rm Pc Qc XC mc ms free) (hbl : FrameBlind Pc) : vx_Back l R p e below s args y 3 8 (PreOf R mc ms Pc) (PostOf Qc mc ms free) (vx_Post XC mc ms free) := by
  obtain ⟨hrc, hrs, hfr, hlo, hws, hcw, -, hini, -⟩ := cb
  exact vx_back (bytes := bytes) (maxL := maxL) (ret := ret) hM hbl hrc hrs hfr hlo hws hcw (fun a' U hW => word_at hW (Or.inl (by first | rfl | simp [Cond.onTables, Cond.keeps, Cond.steady])) hini)
theorem vx_runV (S : CallFix p m c cc nL s args Ts own) (hM : vx_Met l y ws rm Pc Qc XC mc ms free) (cw : CallW R s args own C index y bytes maxL ret ws rm mc ms n) (hp : PreV s H C b Pc As)
    (hg : g.method = m) (hn : As.length = n) (hsize : g.locals.size = nL) (hstack : g.stack = As.reverse ++ .ref b :: rest) (hW : 2 * g.monitorRoom + (rest.map fun v => v.category).sum ≤ 8) (hdg : decode cc g.pc = .ok (.invokevirtual index, 3)) (hf : cells + mc ≤ R.cells ∧ slots + ms ≤ R.slots) :
    vx_Run p l e R s m args below meth c H locs cells slots mc ms g rest (Qc (Value.ref b :: As).toArray) XC free := by
  have hK : vx_Back l R p e below s args y 3 8 (PreOf R mc ms Pc) (PostOf Qc mc ms free) (vx_Post XC mc ms free) := vx_callBack cw.1 hM hp.1
  obtain ⟨⟨-, -, -, -, -, -, hcode, -, hy, hlen, hl⟩, hin, hse⟩ := cw
  obtain ⟨hx, hb, hml, ho, -⟩ := S
  obtain ⟨-, ⟨cellB, hcB, hoB, hclB⟩, hPc⟩ := hp
  intro T hT X
  rcases vx_callV X hx (C := C) (bytes := bytes) (maxL := maxL) (ret := ret) ho hl hin hse hcode hy hK (by rw [hT]; exact hcB) hoB hclB hg (hsize.trans hml.symm) (argsL := As) (rest := rest) (fun sig h => hn.trans (hlen sig h)) hstack hW (by rw [hb]; exact hdg)
    (fun vm₁ hW₁ => ⟨hf.1, hf.2, hPc (T.setVm vm₁) hT hW₁⟩) with ⟨v, vm₁, ⟨U', l2, c2, s2⟩, hW₁, X', ⟨g', mk, t, L, e1, e2, hq, h1, hL, h2, h3⟩, st⟩ | ⟨q, vm₁, ⟨U', l2, c2, s2⟩, hW₁, X', ⟨g', mk, t, L, E, ce, e1, e2, hq, hce, hcv, hcl, h1, hL, h2, h3⟩, st⟩
  · dsimp only [Pt.U, Pt.locs, Pt.cells, Pt.slots] at X' e1 e2 h1 h2 h3 st
    subst h1; subst h2; subst h3
    exact Or.inl ⟨v, (T.setVm vm₁).calling g' mk (Value.ref b :: As).toArray, t, U', L, hT, X', hL, e1, e2, hq, st⟩
  · dsimp only [Pt.U, Pt.locs, Pt.cells, Pt.slots] at X' e1 e2 h1 h2 h3 st hcl
    subst h1; subst h2; subst h3
    exact Or.inr ⟨q, (T.setVm vm₁).calling g' mk (Value.ref b :: As).toArray, t, U', L, E, ce, hT, X', hL, e1, e2, hq, hce, hcv, vx_cls hW₁ hcl, st⟩
theorem vx_runS (S : CallFix p m c cc nL s args Ts own) (hM : vx_Met l y ws rm Pc Qc XC mc ms free) (cw : CallB R s args own index y bytes maxL ret ws rm mc ms n ∧ (Cond.static y).before args s = true) (hp : PreS s H Pc As)
    (hg : g.method = m) (hn : As.length = n) (hsize : g.locals.size = nL) (hstack : g.stack = As.reverse ++ rest) (hW : 2 * g.monitorRoom + (rest.map fun v => v.category).sum ≤ 8) (hdg : decode cc g.pc = .ok (.invokestatic index, 3)) (hf : cells + mc ≤ R.cells ∧ slots + ms ≤ R.slots) :
    vx_Run p l e R s m args below meth c H locs cells slots mc ms g rest (Qc As.toArray) XC free := by
  have hK : vx_Back l R p e below s args y 3 8 (PreOf R mc ms Pc) (PostOf Qc mc ms free) (vx_Post XC mc ms free) := vx_callBack cw.1 hM hp.1
  obtain ⟨⟨-, -, -, -, -, -, hcode, hini, hy, hlen, hl⟩, hstt⟩ := cw
  obtain ⟨hx, hb, hml, ho, -⟩ := S
  intro T hT X
  rcases vx_callS X hx (bytes := bytes) (maxL := maxL) (ret := ret) ho hl hstt hini hcode hy hK hg (hsize.trans hml.symm) (argsL := As) (rest := rest) (fun sig h => hn.trans (hlen sig h)) hstack hW (by rw [hb]; exact hdg)
    (fun vm₁ hW₁ => ⟨hf.1, hf.2, hp.2 (T.setVm vm₁) hT hW₁⟩) with ⟨v, vm₁, ⟨U', l2, c2, s2⟩, hW₁, X', ⟨g', mk, t, L, e1, e2, hq, h1, hL, h2, h3⟩, st⟩ | ⟨q, vm₁, ⟨U', l2, c2, s2⟩, hW₁, X', ⟨g', mk, t, L, E, ce, e1, e2, hq, hce, hcv, hcl, h1, hL, h2, h3⟩, st⟩
  · dsimp only [Pt.U, Pt.locs, Pt.cells, Pt.slots] at X' e1 e2 h1 h2 h3 st
    subst h1; subst h2; subst h3
    exact Or.inl ⟨v, (T.setVm vm₁).calling g' mk As.toArray, t, U', L, hT, X', hL, e1, e2, hq, st⟩
  · dsimp only [Pt.U, Pt.locs, Pt.cells, Pt.slots] at X' e1 e2 h1 h2 h3 st hcl
    subst h1; subst h2; subst h3
    exact Or.inr ⟨q, (T.setVm vm₁).calling g' mk As.toArray, t, U', L, E, ce, hT, X', hL, e1, e2, hq, hce, hcv, vx_cls hW₁ hcl, st⟩
end Runs
section Rows
variable {p : Program} {l : Launch} {e : Env} {R : Room} {s : State} {m : MethodId} {args : Array Value} {below : List Frame} {meth : Method} {c : Code} {H : Heap} {locs : List Loc} {cells slots : Nat} {Q : State → Prop}
variable {mc ms : Nat} {free : Addr → Prop} {A0 A1 : Nat → Prop} {H0 : Heap} {a : Array Value} {pc : Nat} {ls : Array Slot} {st0 rest : List Value}
theorem vx_keep {st₀ t T' : State} {L : List Loc} (h0 : st₀.heap = H) (e1 : T'.heap = t.heap) (hS : va_S A0 H0 H locs) (hA : ∀ q, q < H.size → A1 q → A0 q) (hf : ∀ q, free q → A0 q) (hL : ∀ q ∈ L, free q.base) (hF : va_F A1 st₀ t) :
    H.size ≤ T'.heap.size ∧ (∀ q : Nat, q < H.size → ¬ A1 q → T'.heap[q]? = H[q]?) ∧ va_S A0 H0 T'.heap (locs ++ L) := by
  obtain ⟨hz, hk⟩ := hF
  rw [h0] at hz hk
  exact ⟨by rw [e1]; exact hz, fun q h1 h2 => by rw [e1]; exact hk q h1 h2,
    ⟨Nat.le_trans hS.1 (by rw [e1]; exact hz), fun q h1 h2 => by rw [e1, hk q (Nat.lt_of_lt_of_le h1 hS.1) (fun z => h2 (hA q (Nat.lt_of_lt_of_le h1 hS.1) z))]; exact hS.2.1 q h1 h2, fun q hq => by
      rcases List.mem_append.mp hq with h | h
      · exact hS.2.2 q h
      · exact hf _ (hL q h)⟩⟩
theorem vx_calli {S SX : Type} {post : Int32 → S → Prop} {px : SX → Prop} {B : S → State → Prop} {BX : String → SX → State → Prop} {AX : Nat → Prop} (hr : vx_Run p l e R s m args below meth c H locs cells slots mc ms (F0 m pc ls st0) rest (va_Qi post B A1 a) (vx_X px BX AX) free) (hS : va_S A0 H0 H locs) (hA : ∀ q, q < H.size → A1 q → A0 q) (hf : ∀ q, free q → A0 q) (hAX : ∀ q, q < H.size → AX q → A0 q)
    (kx : ∀ (E : String) (ce : Cell) (q9 : Addr) (u : SX) (t : State) (H1 : Heap) (locs1 : List Loc), t.heap = H1 → s.vm.Alike t.vm → px u → BX E u t → H.size ≤ H1.size → (∀ q : Nat, q < H.size → ¬ AX q → H1[q]? = H[q]?) → va_S A0 H0 H1 locs1 → H1[q9]? = some ce → ce.vm = .none → s.vm.findClass E = some ce.cls → vx_W p l e R s m args below meth c H1 locs1 (cells + mc) (slots + ms) Q (F0 m pc ls rest) q9)
    (kk : ∀ (r : Int32) (u : S) (t : State) (H1 : Heap) (locs1 : List Loc), t.heap = H1 → s.vm.Alike t.vm → post r u → B u t → H.size ≤ H1.size → (∀ q : Nat, q < H.size → ¬ A1 q → H1[q]? = H[q]?) → va_S A0 H0 H1 locs1 → W p l e R s m args below meth c H1 locs1 (cells + mc) (slots + ms) Q (F0 m (pc + 3) ls (.int r :: rest))) : W p l e R s m args below meth c H locs cells slots Q (F0 m pc ls st0) := by
  intro T hT X
  rcases hr T hT X with ⟨v, st₀, t, T', L, h0, X', hL, e1, e2, ⟨⟨r, u, hv, hp, hb⟩, hF⟩, st⟩ | ⟨q, st₀, t, T', L, E, ce, h0, X', hL, e1, e2, ⟨u, hp, hb, hF⟩, hce, hcv, hcl, st⟩
  · cases hv
    obtain ⟨k1, k2, k3⟩ := vx_keep h0 e1 hS hA hf hL hF
    obtain ⟨t2, a1, b1⟩ := kk r u t T'.heap (locs ++ L) e1.symm (by rw [← e2]; exact X'.warmed.alike) hp hb k1 k2 k3 T' rfl X'
    exact ⟨t2, st t2 a1, b1⟩
  · obtain ⟨k1, k2, k3⟩ := vx_keep h0 e1 hS hAX hf hL hF
    obtain ⟨t2, a1, b1⟩ := kx E ce q u t T'.heap (locs ++ L) e1.symm (by rw [← e2]; exact X'.warmed.alike) hp hb k1 k2 k3 (by rw [e1]; exact hce) hcv hcl T' rfl X'
    exact ⟨t2, st.trans a1, b1⟩
theorem vx_calll {S SX : Type} {post : Int64 → S → Prop} {px : SX → Prop} {B : S → State → Prop} {BX : String → SX → State → Prop} {AX : Nat → Prop} (hr : vx_Run p l e R s m args below meth c H locs cells slots mc ms (F0 m pc ls st0) rest (va_Ql post B A1 a) (vx_X px BX AX) free) (hS : va_S A0 H0 H locs) (hA : ∀ q, q < H.size → A1 q → A0 q) (hf : ∀ q, free q → A0 q) (hAX : ∀ q, q < H.size → AX q → A0 q)
    (kx : ∀ (E : String) (ce : Cell) (q9 : Addr) (u : SX) (t : State) (H1 : Heap) (locs1 : List Loc), t.heap = H1 → s.vm.Alike t.vm → px u → BX E u t → H.size ≤ H1.size → (∀ q : Nat, q < H.size → ¬ AX q → H1[q]? = H[q]?) → va_S A0 H0 H1 locs1 → H1[q9]? = some ce → ce.vm = .none → s.vm.findClass E = some ce.cls → vx_W p l e R s m args below meth c H1 locs1 (cells + mc) (slots + ms) Q (F0 m pc ls rest) q9)
    (kk : ∀ (r : Int64) (u : S) (t : State) (H1 : Heap) (locs1 : List Loc), t.heap = H1 → s.vm.Alike t.vm → post r u → B u t → H.size ≤ H1.size → (∀ q : Nat, q < H.size → ¬ A1 q → H1[q]? = H[q]?) → va_S A0 H0 H1 locs1 → W p l e R s m args below meth c H1 locs1 (cells + mc) (slots + ms) Q (F0 m (pc + 3) ls (.long r :: rest))) : W p l e R s m args below meth c H locs cells slots Q (F0 m pc ls st0) := by
  intro T hT X
  rcases hr T hT X with ⟨v, st₀, t, T', L, h0, X', hL, e1, e2, ⟨⟨r, u, hv, hp, hb⟩, hF⟩, st⟩ | ⟨q, st₀, t, T', L, E, ce, h0, X', hL, e1, e2, ⟨u, hp, hb, hF⟩, hce, hcv, hcl, st⟩
  · cases hv
    obtain ⟨k1, k2, k3⟩ := vx_keep h0 e1 hS hA hf hL hF
    obtain ⟨t2, a1, b1⟩ := kk r u t T'.heap (locs ++ L) e1.symm (by rw [← e2]; exact X'.warmed.alike) hp hb k1 k2 k3 T' rfl X'
    exact ⟨t2, st t2 a1, b1⟩
  · obtain ⟨k1, k2, k3⟩ := vx_keep h0 e1 hS hAX hf hL hF
    obtain ⟨t2, a1, b1⟩ := kx E ce q u t T'.heap (locs ++ L) e1.symm (by rw [← e2]; exact X'.warmed.alike) hp hb k1 k2 k3 (by rw [e1]; exact hce) hcv hcl T' rfl X'
    exact ⟨t2, st.trans a1, b1⟩
theorem vx_callf {S SX : Type} {post : UInt32 → S → Prop} {px : SX → Prop} {B : S → State → Prop} {BX : String → SX → State → Prop} {AX : Nat → Prop} (hr : vx_Run p l e R s m args below meth c H locs cells slots mc ms (F0 m pc ls st0) rest (va_Qf post B A1 a) (vx_X px BX AX) free) (hS : va_S A0 H0 H locs) (hA : ∀ q, q < H.size → A1 q → A0 q) (hf : ∀ q, free q → A0 q) (hAX : ∀ q, q < H.size → AX q → A0 q)
    (kx : ∀ (E : String) (ce : Cell) (q9 : Addr) (u : SX) (t : State) (H1 : Heap) (locs1 : List Loc), t.heap = H1 → s.vm.Alike t.vm → px u → BX E u t → H.size ≤ H1.size → (∀ q : Nat, q < H.size → ¬ AX q → H1[q]? = H[q]?) → va_S A0 H0 H1 locs1 → H1[q9]? = some ce → ce.vm = .none → s.vm.findClass E = some ce.cls → vx_W p l e R s m args below meth c H1 locs1 (cells + mc) (slots + ms) Q (F0 m pc ls rest) q9)
    (kk : ∀ (r : UInt32) (u : S) (t : State) (H1 : Heap) (locs1 : List Loc), t.heap = H1 → s.vm.Alike t.vm → post r u → B u t → H.size ≤ H1.size → (∀ q : Nat, q < H.size → ¬ A1 q → H1[q]? = H[q]?) → va_S A0 H0 H1 locs1 → W p l e R s m args below meth c H1 locs1 (cells + mc) (slots + ms) Q (F0 m (pc + 3) ls (.float r :: rest))) : W p l e R s m args below meth c H locs cells slots Q (F0 m pc ls st0) := by
  intro T hT X
  rcases hr T hT X with ⟨v, st₀, t, T', L, h0, X', hL, e1, e2, ⟨⟨r, u, hv, hp, hb⟩, hF⟩, st⟩ | ⟨q, st₀, t, T', L, E, ce, h0, X', hL, e1, e2, ⟨u, hp, hb, hF⟩, hce, hcv, hcl, st⟩
  · cases hv
    obtain ⟨k1, k2, k3⟩ := vx_keep h0 e1 hS hA hf hL hF
    obtain ⟨t2, a1, b1⟩ := kk r u t T'.heap (locs ++ L) e1.symm (by rw [← e2]; exact X'.warmed.alike) hp hb k1 k2 k3 T' rfl X'
    exact ⟨t2, st t2 a1, b1⟩
  · obtain ⟨k1, k2, k3⟩ := vx_keep h0 e1 hS hAX hf hL hF
    obtain ⟨t2, a1, b1⟩ := kx E ce q u t T'.heap (locs ++ L) e1.symm (by rw [← e2]; exact X'.warmed.alike) hp hb k1 k2 k3 (by rw [e1]; exact hce) hcv hcl T' rfl X'
    exact ⟨t2, st.trans a1, b1⟩
theorem vx_calld {S SX : Type} {post : UInt64 → S → Prop} {px : SX → Prop} {B : S → State → Prop} {BX : String → SX → State → Prop} {AX : Nat → Prop} (hr : vx_Run p l e R s m args below meth c H locs cells slots mc ms (F0 m pc ls st0) rest (va_Qd post B A1 a) (vx_X px BX AX) free) (hS : va_S A0 H0 H locs) (hA : ∀ q, q < H.size → A1 q → A0 q) (hf : ∀ q, free q → A0 q) (hAX : ∀ q, q < H.size → AX q → A0 q)
    (kx : ∀ (E : String) (ce : Cell) (q9 : Addr) (u : SX) (t : State) (H1 : Heap) (locs1 : List Loc), t.heap = H1 → s.vm.Alike t.vm → px u → BX E u t → H.size ≤ H1.size → (∀ q : Nat, q < H.size → ¬ AX q → H1[q]? = H[q]?) → va_S A0 H0 H1 locs1 → H1[q9]? = some ce → ce.vm = .none → s.vm.findClass E = some ce.cls → vx_W p l e R s m args below meth c H1 locs1 (cells + mc) (slots + ms) Q (F0 m pc ls rest) q9)
    (kk : ∀ (r : UInt64) (u : S) (t : State) (H1 : Heap) (locs1 : List Loc), t.heap = H1 → s.vm.Alike t.vm → post r u → B u t → H.size ≤ H1.size → (∀ q : Nat, q < H.size → ¬ A1 q → H1[q]? = H[q]?) → va_S A0 H0 H1 locs1 → W p l e R s m args below meth c H1 locs1 (cells + mc) (slots + ms) Q (F0 m (pc + 3) ls (.double r :: rest))) : W p l e R s m args below meth c H locs cells slots Q (F0 m pc ls st0) := by
  intro T hT X
  rcases hr T hT X with ⟨v, st₀, t, T', L, h0, X', hL, e1, e2, ⟨⟨r, u, hv, hp, hb⟩, hF⟩, st⟩ | ⟨q, st₀, t, T', L, E, ce, h0, X', hL, e1, e2, ⟨u, hp, hb, hF⟩, hce, hcv, hcl, st⟩
  · cases hv
    obtain ⟨k1, k2, k3⟩ := vx_keep h0 e1 hS hA hf hL hF
    obtain ⟨t2, a1, b1⟩ := kk r u t T'.heap (locs ++ L) e1.symm (by rw [← e2]; exact X'.warmed.alike) hp hb k1 k2 k3 T' rfl X'
    exact ⟨t2, st t2 a1, b1⟩
  · obtain ⟨k1, k2, k3⟩ := vx_keep h0 e1 hS hAX hf hL hF
    obtain ⟨t2, a1, b1⟩ := kx E ce q u t T'.heap (locs ++ L) e1.symm (by rw [← e2]; exact X'.warmed.alike) hp hb k1 k2 k3 (by rw [e1]; exact hce) hcv hcl T' rfl X'
    exact ⟨t2, st.trans a1, b1⟩
theorem vx_callv {S SX : Type} {post : S → Prop} {px : SX → Prop} {B : S → State → Prop} {BX : String → SX → State → Prop} {AX : Nat → Prop} (hr : vx_Run p l e R s m args below meth c H locs cells slots mc ms (F0 m pc ls st0) rest (va_Qv post B A1 a) (vx_X px BX AX) free) (hS : va_S A0 H0 H locs) (hA : ∀ q, q < H.size → A1 q → A0 q) (hf : ∀ q, free q → A0 q) (hAX : ∀ q, q < H.size → AX q → A0 q)
    (kx : ∀ (E : String) (ce : Cell) (q9 : Addr) (u : SX) (t : State) (H1 : Heap) (locs1 : List Loc), t.heap = H1 → s.vm.Alike t.vm → px u → BX E u t → H.size ≤ H1.size → (∀ q : Nat, q < H.size → ¬ AX q → H1[q]? = H[q]?) → va_S A0 H0 H1 locs1 → H1[q9]? = some ce → ce.vm = .none → s.vm.findClass E = some ce.cls → vx_W p l e R s m args below meth c H1 locs1 (cells + mc) (slots + ms) Q (F0 m pc ls rest) q9)
    (kk : ∀ (u : S) (t : State) (H1 : Heap) (locs1 : List Loc), t.heap = H1 → s.vm.Alike t.vm → post u → B u t → H.size ≤ H1.size → (∀ q : Nat, q < H.size → ¬ A1 q → H1[q]? = H[q]?) → va_S A0 H0 H1 locs1 → W p l e R s m args below meth c H1 locs1 (cells + mc) (slots + ms) Q (F0 m (pc + 3) ls (rest))) : W p l e R s m args below meth c H locs cells slots Q (F0 m pc ls st0) := by
  intro T hT X
  rcases hr T hT X with ⟨v, st₀, t, T', L, h0, X', hL, e1, e2, ⟨⟨u, hv, hp, hb⟩, hF⟩, st⟩ | ⟨q, st₀, t, T', L, E, ce, h0, X', hL, e1, e2, ⟨u, hp, hb, hF⟩, hce, hcv, hcl, st⟩
  · cases hv
    obtain ⟨k1, k2, k3⟩ := vx_keep h0 e1 hS hA hf hL hF
    obtain ⟨t2, a1, b1⟩ := kk u t T'.heap (locs ++ L) e1.symm (by rw [← e2]; exact X'.warmed.alike) hp hb k1 k2 k3 T' rfl X'
    exact ⟨t2, st t2 a1, b1⟩
  · obtain ⟨k1, k2, k3⟩ := vx_keep h0 e1 hS hAX hf hL hF
    obtain ⟨t2, a1, b1⟩ := kx E ce q u t T'.heap (locs ++ L) e1.symm (by rw [← e2]; exact X'.warmed.alike) hp hb k1 k2 k3 (by rw [e1]; exact hce) hcv hcl T' rfl X'
    exact ⟨t2, st.trans a1, b1⟩
/-- caught by the row x of this method's table; the rows ahead don't take it -/
theorem vx_catch {own name : String} {E : String} {ce : Cell} {q : Addr} (hown : s.vm.findClass own = some m.cls) (pre : List ExceptionTableEntry) (x : ExceptionTableEntry) (suf : List ExceptionTableEntry) (hsplit : c.exceptionTable.toList = pre ++ x :: suf)
    (hpass : ∀ z ∈ pre, covers z pc = false ∨ (z.catchType ≠ 0 ∧ ∃ nm : String, (Cond.classLink own z.catchType nm).before args s = true ∧ va_Nc E nm s)) (hx : covers x pc = true) (h0 : x.catchType ≠ 0)
    (hlink : (Cond.classLink own x.catchType name).before args s = true) (hcast : (Cond.castable E name).before args s = true) (hcell : H[q]? = some ce) (hv : ce.vm = .none) (hcl : s.vm.findClass E = some ce.cls)
    (kk : W p l e R s m args below meth c H locs cells slots Q (F0 m x.handlerPc ls [.ref q])) : vx_W p l e R s m args below meth c H locs cells slots Q (F0 m pc ls rest) q := by
  intro T hT X
  have hpl : e.platform.magicAccessors = ({} : Platform).magicAccessors := by rw [X.admits.platform]
  obtain ⟨c3, c4, hc3, hc4, hasg⟩ := Cond.castable_spec hcast
  cases Option.some.inj (hc3.symm.trans hcl)
  obtain ⟨c5, hc5, hcl5⟩ := Cond.classLink_spec hown hlink e.platform hpl
  cases Option.some.inj (hc4.symm.trans hc5)
  obtain ⟨vm', X', st⟩ := X.thenCaughtThrough q (g := F0 m pc ls rest) rfl (Steps.refl _) (by rw [hT]; exact hcell) (by rw [hv]; rfl) (by obtain ⟨k9, h9, -⟩ := Vm.findClass_spec hcl; exact ⟨k9, h9⟩) pre x suf hsplit
    (fun z hz => by
      rcases hpass z hz with h | ⟨hz0, nm, hl1, hn1⟩
      · exact Or.inl h
      · obtain ⟨c6, hc6, hcl6⟩ := Cond.classLink_spec hown hl1 e.platform hpl
        obtain ⟨a8, b8, h1, h2, h3⟩ := hn1
        cases Option.some.inj (h1.symm.trans hcl)
        cases Option.some.inj (h2.symm.trans hc6)
        exact Or.inr ⟨hz0, _, hcl6, h3⟩) hx (Or.inr ⟨h0, c4, hcl5, hasg⟩)
  obtain ⟨t, a1, b1⟩ := kk (T.setVm vm') hT X'
  exact ⟨t, st.trans a1, b1⟩
end Rows
section Ends
variable {p : Program} {l : Launch} {e : Env} {R : Room} {s : State} {m : MethodId} {args : Array Value} {below : List Frame} {meth : Method} {c : Code} {H : Heap} {locs : List Loc} {cells slots : Nat} {Q : State → Prop}
variable {mc ms : Nat} {free : Addr → Prop} {A0 A1 : Nat → Prop} {H0 : Heap} {a : Array Value} {ls : Array Slot} {st0 rest : List Value}
variable {Qc : Array Value → State → Outcome → State → Prop} {XC : String → State → State → Prop}
/-- what a body that may throw owes at its end -/
def vx_MQ (below : List Frame) (Qc : Array Value → State → Outcome → State → Prop) (XC : String → State → State → Prop) (a : Array Value) (s : State) (mc ms : Nat) (free : Addr → Prop) : State → Prop := fun t =>
  ∃ o, t.status = .running ∧ Ended t below o ∧ vx_Q Qc XC mc ms free a s o t
theorem vx_ret {g : JFrame} {mc ms : Nat} (k : W p l e R s m args below meth c H locs cells slots (MQ below Qc args s mc ms free) g) : W p l e R s m args below meth c H locs cells slots (vx_MQ below Qc XC args s mc ms free) g := by
  intro T hT X
  obtain ⟨t, a1, o, b1, b2, b3, b4⟩ := k T hT X
  exact ⟨t, a1, o, b1, b2, Or.inl ⟨b3, b4⟩⟩
/-- not caught here: it goes on to the caller -/
theorem vx_widen {g : JFrame} {q : Addr} {k n : Nat} (h1 : cells ≤ k) (h2 : slots ≤ n) (kk : vx_W p l e R s m args below meth c H locs k n Q g q) : vx_W p l e R s m args below meth c H locs cells slots Q g q := fun T hT X => kk T hT (stand_widen X h1 h2)
theorem vx_out {pc : Nat} {E : String} {ce : Cell} {q : Addr} {mc ms : Nat} (hout : ∀ x ∈ c.exceptionTable.toList, covers x pc = false) (hlocks : meth.locks = false) (hcell : H[q]? = some ce) (hv : ce.vm = .none) (hcl : s.vm.findClass E = some ce.cls)
    (hx : ∀ t : State, t.heap = H → s.vm.Alike t.vm → XC E s t) (hf : ∀ z ∈ locs, free z.base) (hc : cells ≤ mc) (hs : slots ≤ ms) :
    vx_W p l e R s m args below meth c H locs cells slots (vx_MQ below Qc XC args s mc ms free) (F0 m pc ls rest) q := by
  intro T hT X
  obtain ⟨st1, hrun, hend, hW, hsm⟩ := X.leaveThrown q (g := F0 m pc ls rest) rfl rfl rfl hout hlocks
  have hcell9 : (T.setFrames (.throwing q :: below)).heap[q]? = some ce := by
    show T.heap[q]? = some ce
    rw [hT]; exact hcell
  exact ⟨_, st1, .threw q, hrun, hend, Or.inr ⟨q, rfl, E, ce, locs, hx _ hT hW.alike, hcell9, hv, hcl, hW, hsm.mono hc hs, hf⟩⟩
theorem vx_frame {U : State} {k n : Nat} (h : s.sameButNew ({ U with vm := s.vm } : State) locs k n) : s.heap.size ≤ U.heap.size ∧ ∀ q : Nat, q < s.heap.size → (∀ z ∈ locs, z.base ≠ q) → U.heap[q]? = s.heap[q]? := by
  obtain ⟨-, h2, -, -, -, h6⟩ := h
  refine ⟨h2, fun q hq hz => ?_⟩
  obtain ⟨c9, e1, e2, e3, e4⟩ := h6 q _ (Array.getElem?_eq_getElem hq)
  have hs : c9.slots = (s.heap[q]).slots := Array.ext_getElem? fun i => e4 i fun hm => hz _ hm rfl
  have h9 : c9 = s.heap[q] := by
    rw [hs] at e2
    exact e2
  have e5 : U.heap[q]? = some c9 := e1
  rw [e5, h9, Array.getElem?_eq_getElem hq]
/-- the words of a throw but the four that speak of the heap -/
def vx_no (w : Cond) : Bool := decide (w ≠ .isRef (.static Bundle.tN "UNASSIGNED_STACK" Bundle.steD)) && decide (w ≠ .isRef (.static Bundle.tN "SUPPRESSED_SENTINEL" Bundle.listD)) && decide (w ≠ .laysStatic Bundle.tN "UNASSIGNED_STACK" Bundle.steD) && decide (w ≠ .laysStatic Bundle.tN "SUPPRESSED_SENTINEL" Bundle.listD)
def vx_at0 (own : String) (ic : Nat) (X : String) (names : List String) : List Cond := (Bundle.ownAtoms0 own ic X names).filter vx_no
def vx_atS (own : String) (ic : Nat) (X : String) (names : List String) : List Cond := (Bundle.ownAtoms own ic X names).filter vx_no
/-- a word that the tables alone decide, or a good one -/
def vx_ot (w : Cond) : Bool := w.onTables || goodWord w
theorem vx_ot_at {args a' : Array Value} {s U : State} {w : Cond} (hW : s.WarmedH U.vm) (hvm : s.vm = U.vm) (hg : vx_ot w = true) (h : w.before args s = true) : w.before a' U = true := by
  simp only [vx_ot, Bool.or_eq_true] at hg
  rcases hg with hg | hg
  · exact va_tabs hg hvm h
  · exact word_at hW (good_of_word hg) h
/-- a list's words: the good ones out of the method's own list, the others by premises of their own -/
theorem vx_hat {args : Array Value} {s : State} {L B : List Cond} (h1 : ∀ w ∈ L.filter goodWord, w.before args s = true) (h2 : ∀ w ∈ L.filter (fun w => !goodWord w), w ∈ B) (h3 : ∀ w ∈ B, w.before args s = true) : ∀ w ∈ L, w.before args s = true := by
  intro w hw
  by_cases g : goodWord w = true
  · exact h1 w (List.mem_filter.mpr ⟨hw, g⟩)
  · refine h3 w (h2 w (List.mem_filter.mpr ⟨hw, ?_⟩))
    show (!goodWord w) = true
    cases hgw : goodWord w
    · rfl
    · exact absurd hgw g
theorem vx_c {args : Array Value} {s : State} {w : Cond} {B : List Cond} (h : w.before args s = true) (t : ∀ w ∈ B, w.before args s = true) : ∀ w' ∈ w :: B, w'.before args s = true := fun w' h' => (List.mem_cons.mp h').elim (fun e => by rw [e]; exact h) (t w')
theorem vx_n {args : Array Value} {s : State} : ∀ w ∈ ([] : List Cond), w.before args s = true := fun _ h => nomatch h
theorem vx_own {args : Array Value} {s : State} {L : List Cond} (h1 : ∀ w ∈ L.filter vx_no, w.before args s = true)
    (hU : (Cond.isRef (.static Bundle.tN "UNASSIGNED_STACK" Bundle.steD)).before args s = true) (hN : (Cond.isRef (.static Bundle.tN "SUPPRESSED_SENTINEL" Bundle.listD)).before args s = true)
    (lU : (Cond.laysStatic Bundle.tN "UNASSIGNED_STACK" Bundle.steD).before args s = true) (lN : (Cond.laysStatic Bundle.tN "SUPPRESSED_SENTINEL" Bundle.listD).before args s = true) : ∀ w ∈ L, w.before args s = true := by
  intro w hw
  by_cases e1 : w = .isRef (.static Bundle.tN "UNASSIGNED_STACK" Bundle.steD)
  · rw [e1]; exact hU
  · by_cases e2 : w = .isRef (.static Bundle.tN "SUPPRESSED_SENTINEL" Bundle.listD)
    · rw [e2]; exact hN
    · by_cases e3 : w = .laysStatic Bundle.tN "UNASSIGNED_STACK" Bundle.steD
      · rw [e3]; exact lU
      · by_cases e4 : w = .laysStatic Bundle.tN "SUPPRESSED_SENTINEL" Bundle.listD
        · rw [e4]; exact lN
        · exact h1 w (List.mem_filter.mpr ⟨hw, by unfold vx_no; rw [decide_eq_true e1, decide_eq_true e2, decide_eq_true e3, decide_eq_true e4]; rfl⟩)
/-- where a static field lies, its class's statics cell in H -/
def vx_L (C n d : String) (A : Nat → Prop) (U : State) (H : Heap) : Prop := ∃ (c : ClassId) (k : Class) (i : Nat) (f : Field) (a : Nat) (cell : Cell), U.vm.findClass C = some c ∧ U.fieldFound? C n d = some (c, k, i, f) ∧ f.isStatic = true ∧ k.statics = some a ∧ H[a]? = some cell ∧ cell.vm.isStatics = true ∧ cell.cls = c ∧ f.slot < cell.slots.size ∧ k.staticTypes[f.slot]? = some f.type ∧ ¬ A a
theorem vx_L.moved {C n d : String} {A : Nat → Prop} {u U : State} {H : Heap} (hvm : u.vm.Alike U.vm) (h : vx_L C n d A u H) : vx_L C n d A U H := by
  obtain ⟨c, k, i, f, a, cell, h1, h2, h3, h4, h5, h6, h7, h8, h9, h10⟩ := h
  obtain ⟨k', hi', he⟩ := State.fieldFound?_setVm hvm h2
  exact ⟨c, k', i, f, a, cell, by rw [hvm.findClass]; exact h1, hi', h3, by rw [he]; exact h4, h5, h6, h7, h8, by rw [he]; exact h9, h10⟩
theorem vx_L.kept {C n d : String} {A : Nat → Prop} {U : State} {H H1 : Heap} (h : vx_L C n d A U H) (hq : ∀ a : Nat, a < H.size → ¬ A a → H1[a]? = H[a]?) : vx_L C n d A U H1 := by
  obtain ⟨c, k, i, f, a, cell, h1, h2, h3, h4, h5, h6, h7, h8, h9, h10⟩ := h
  exact ⟨c, k, i, f, a, cell, h1, h2, h3, h4, by rw [hq a (Array.getElem?_eq_some_iff.mp h5).1 h10]; exact h5, h6, h7, h8, h9, h10⟩
theorem vx_L.narrow {C n d : String} {A B : Nat → Prop} {U : State} {H : Heap} (h : vx_L C n d A U H) (hAB : ∀ q, B q → A q) : vx_L C n d B U H := by
  obtain ⟨c, k, i, f, a, cell, h1, h2, h3, h4, h5, h6, h7, h8, h9, h10⟩ := h
  exact ⟨c, k, i, f, a, cell, h1, h2, h3, h4, h5, h6, h7, h8, h9, fun z => h10 (hAB _ z)⟩
theorem vx_L.word {C n d : String} {A : Nat → Prop} {s : State} {args : Array Value} (h : vx_L C n d A s s.heap) : (Cond.laysStatic C n d).before args s = true := by
  obtain ⟨c, k, i, f, a, cell, h1, h2, h3, h4, h5, h6, h7, h8, h9, -⟩ := h
  show (Cond.laysStatic C n d).holds args s none s [] = true
  exact Cond.laysStatic_of h1 h2 h3 h4 h5 h6 h7 h8 h9
/-- .. and what it holds: null or some reference -/
def vx_Zq (C n d : String) (A : Nat → Prop) (U : State) (H : Heap) : Prop := va_Zq C n d A U H ∧ vx_L C n d A U H
theorem vx_Zq.moved {C n d : String} {A : Nat → Prop} {u U : State} {H : Heap} (hvm : u.vm.Alike U.vm) (h : vx_Zq C n d A u H) : vx_Zq C n d A U H := ⟨va_Zq.moved hvm h.1, vx_L.moved hvm h.2⟩
theorem vx_Zq.kept {C n d : String} {A : Nat → Prop} {U : State} {H H1 : Heap} (h : vx_Zq C n d A U H) (hq : ∀ a : Nat, a < H.size → ¬ A a → H1[a]? = H[a]?) : vx_Zq C n d A U H1 := ⟨va_Zq.kept h.1 hq, vx_L.kept h.2 hq⟩
theorem vx_Zq.narrow {C n d : String} {A B : Nat → Prop} {U : State} {H : Heap} (h : vx_Zq C n d A U H) (hAB : ∀ q, B q → A q) : vx_Zq C n d B U H := ⟨va_Zq.narrow h.1 hAB, vx_L.narrow h.2 hAB⟩
theorem vx_Zqof {args : Array Value} {s : State} {C n d : String} {A : Nat → Prop} (hl : (Cond.laysStatic C n d).before args s = true) (hini : (Cond.initialized C).before args s = true) (h : (Cond.isRef (.static C n d)).before args s = true) (hA : ∀ a : Nat, a < s.heap.size → ¬ A a) : vx_Zq C n d A s s.heap := by
  refine ⟨va_Zqof hl hini h hA, ?_⟩
  obtain ⟨c, k, i, f, a, cell, h1, h2, h3, h4, h5, h6, h7, h8, h9⟩ := Cond.laysStatic_spec hl
  exact ⟨c, k, i, f, a, cell, h1, h2, h3, h4, h5, h6, h7, h8, h9, hA a (Array.getElem?_eq_some_iff.mp h5).1⟩
theorem vx_isRef {C n d : String} {v : Value} {A : Nat → Prop} {s : State} {args : Array Value} (h : va_Z C n d v A s s.heap) (hv : v.isRef = true) : (Cond.isRef (.static C n d)).before args s = true := by
  obtain ⟨cf, kf, fi, f, a, cell, h1, h2, h3, h4, h5, h6, h7, -⟩ := h
  have he : (Term.static C n d).eval args s none [] s = some v := by
    simp [Term.eval, State.fieldNamed?, h1, h2, h4, h5, h6, h7]
  simp only [Cond.before, Cond.holds, Cond.value, he]
  cases v <;> simp_all [Value.isRef]
theorem vx_isRefq {C n d : String} {A : Nat → Prop} {s : State} {args : Array Value} (h : va_Zq C n d A s s.heap) : (Cond.isRef (.static C n d)).before args s = true := by
  rcases h with h | ⟨t, h⟩
  · exact vx_isRef h rfl
  · exact vx_isRef h rfl
/-- the same frame, seen from here: as if the method were called anew in this heap -/
theorem vx_rebase {T : State} (X : Stand p l e R s m args below meth c T locs cells slots) {R' : Room} (hf : R'.frames ≤ R.frames) (hl : R'.locals ≤ R.locals) (hc : cells + R'.cells ≤ R.cells) (hs : slots + R'.slots ≤ R.slots) :
    Stand p l e R' ((T.setVm s.vm).setFrames (.invoking m args :: below)) m args below meth c T [] 0 0 := by
  have htop : (T.setVm s.vm).topJava?.isSome := X.here.top
  have hF : ((T.setVm s.vm).setFrames (.invoking m args :: below)).frames = .invoking m args :: below := State.frames_setFrames _ (State.cur_lt_of_top htop)
  obtain ⟨g₀, hg0⟩ := Option.isSome_iff_exists.mp htop
  obtain ⟨r, hr⟩ := State.topJava?_eq_some.mp hg0
  have hl9 : e.platform.stackLimits (T.setVm s.vm).me = e.platform.stackLimits s.me := X.limits
  have hb9 : (T.setVm s.vm).me.stackBytes = s.me.stackBytes := X.bytes
  refine ⟨X.admits, X.cas, X.clock, hF, ?_, X.hears, X.method, X.code, X.here, X.tail, X.warmed, ?_, ?_, ?_⟩
  · have h := X.room
    have hU : ((T.setVm s.vm).setFrames (.invoking m args :: below)).localsInUse = s.localsInUse := by
      rw [State.localsInUse_invoking hF (meth := meth) (c := c) X.method X.code, State.localsInUse_invoking X.frames X.method X.code]
    simp only [State.hasRoom, Bool.and_eq_true, decide_eq_true_eq] at h ⊢
    obtain ⟨⟨⟨⟨h1, h2, h3, h4, h5, h6⟩, h7⟩, h8⟩, h9⟩ := h
    rw [X.frames, List.length_cons] at h2 h3
    have q1 := X.heapSize
    have q2 := X.used
    simp only [hF, hU, List.length_cons, State.stackLimits_setFrames, State.stackBytes_setFrames, hl9, hb9]
    refine ⟨⟨⟨⟨by omega, by omega, by omega, by omega, by omega, h6⟩, ?_⟩, ?_⟩, X.book⟩
    · show T.heap.size + R'.cells ≤ e.platform.maxCells
      omega
    · show T.slotsUsed + R'.slots ≤ e.platform.maxSlots
      omega
  · rw [State.stackLimits_setFrames]; rfl
  · rw [State.stackBytes_setFrames]; rfl
  · refine ⟨?_, Nat.le_refl _, Nat.le_refl _, ?_, ?_, fun a c9 h9 => ⟨c9, h9, rfl, rfl, fun _ _ => rfl⟩⟩
    · obtain ⟨t, ht, -⟩ := State.frames_cons hr
      show T.setVm s.vm = { ((T.setVm s.vm).setFrames (.invoking m args :: below)).setFrames (T.setVm s.vm).frames with heap := T.heap, slotsUsed := T.slotsUsed }
      rw [State.setFrames_setFrames, State.setFrames_self ht]
      rfl
    · show T.slotsUsed = T.slotsUsed + ((T.heap.toList.drop T.heap.size).map (·.slots.size)).sum
      rw [List.drop_eq_nil_of_le (Nat.le_of_eq Array.length_toList)]
      rfl
    · show ((T.heap.toList.drop T.heap.size).map (·.slots.size)).sum ≤ 0
      rw [List.drop_eq_nil_of_le (Nat.le_of_eq Array.length_toList)]
      exact Nat.le_refl _
/-- 'throw new E()': new; dup; invokespecial; athrow -/
theorem vx_throw0 {cc : ByteArray} {pc : Nat} (hexec : p.tables.exec = Jvm.exec) (hb : c.code = cc) (hl : l.stackTraces = false) {own cls : String} {names : List String} {ik ic mc ms : Nat} {A : Nat → Prop}
    (hown : s.vm.findClass own = some m.cls) (hcls : Bundle.fit cls = true) (hnames : ∀ n ∈ names, Bundle.fit n = true)
    (hk : (Cond.classLink own ik cls).before args s = true) (hini : (Cond.initialized cls).before args s = true) (hat : ∀ w ∈ vx_at0 own ic cls names, w.before args s = true)
    (hgood : ∀ w ∈ Cond.classLink own ik cls :: Cond.initialized cls :: vx_at0 own ic cls names, vx_ot w = true)
    (hU : vx_Zq Bundle.tN "UNASSIGNED_STACK" Bundle.steD A s s.heap) (hN : vx_Zq Bundle.tN "SUPPRESSED_SENTINEL" Bundle.listD A s s.heap) (hS : va_S A s.heap H locs) (hsize : ls.size = c.maxLocals)
    (d0 : decode cc pc = .ok (.new ik, 3)) (d3 : decode cc (pc + 3) = .ok (.dup, 1)) (d4 : decode cc (pc + 4) = .ok (.invokespecial ic, 3)) (d7 : decode cc (pc + 7) = .ok (.athrow, 1))
    (hout : ∀ x ∈ c.exceptionTable.toList, covers x (pc + 7) = false)
    (hRframes : names.length + 3 < R.frames) (hRlocals : (rest.map fun v => v.category).sum + (13 * (names.length + 1) + 42) ≤ R.locals) (hRcells : cells + 1 ≤ R.cells) (hRslots : slots + 6 ≤ R.slots) (hlocks : meth.locks = false)
    (hx : ∀ t : State, s.vm.Alike t.vm → H.size ≤ t.heap.size → (∀ q : Nat, q < H.size → t.heap[q]? = H[q]?) → XC cls s t)
    (hf : ∀ z ∈ locs, free z.base) (hc : cells + 1 ≤ mc) (hs : slots + 6 ≤ ms) :
    W p l e R s m args below meth c H locs cells slots (vx_MQ below Qc XC args s mc ms free) (F0 m pc ls rest) := by
  intro T hT X
  have htr : e.platform.stackTraces = false := (show e.platform.stackTraces = l.stackTraces by rw [X.admits.platform]).trans hl
  have Y := vx_rebase X (R' := { frames := R.frames, locals := R.locals, cells := 1, slots := 6 }) (Nat.le_refl _) (Nat.le_refl _) hRcells hRslots
  obtain ⟨s', hA⟩ : ∃ z, z = (T.setVm s.vm).setFrames (.invoking m args :: below) := ⟨_, rfl⟩
  rw [← hA] at Y
  have hvm : s'.vm = s.vm := by rw [hA]; rfl
  have hhp : s'.heap = H := by rw [hA]; exact hT
  have hW0 : s.WarmedH s'.vm := by rw [hvm]; exact State.WarmedH.refl s
  have hat' : ∀ w ∈ vx_at0 own ic cls names, w.before args s' = true := fun w hw => vx_ot_at hW0 hvm.symm (hgood w (List.mem_cons_of_mem _ (List.mem_cons_of_mem _ hw))) (hat w hw)
  have hk' : (Cond.classLink own ik cls).before args s' = true := vx_ot_at hW0 hvm.symm (hgood _ List.mem_cons_self) hk
  have hini' : (Cond.initialized cls).before args s' = true := vx_ot_at hW0 hvm.symm (hgood _ (List.mem_cons_of_mem _ List.mem_cons_self)) hini
  have hU' : vx_Zq Bundle.tN "UNASSIGNED_STACK" Bundle.steD A s' s'.heap := by rw [hhp]; exact vx_Zq.moved hW0.alike (hU.kept hS.2.1)
  have hN' : vx_Zq Bundle.tN "SUPPRESSED_SENTINEL" Bundle.listD A s' s'.heap := by rw [hhp]; exact vx_Zq.moved hW0.alike (hN.kept hS.2.1)
  have h : ∀ w ∈ Bundle.ownAtoms0 own ic cls names, w.before args s' = true := vx_own hat' (vx_isRefq hU'.1) (vx_isRefq hN'.1) hU'.2.word hN'.2.word
  have hown' : s'.vm.findClass own = some m.cls := by rw [hvm]; exact hown
  have hins : (Cond.instantiable cls 6).before args s' = true := h _ (by simp [Bundle.ownAtoms0])
  obtain ⟨vm₁, cX, kX, hfX, hkX, -, -, X₁, st1⟩ := Y.newCold hexec (own := own) (C := cls) (index := ik) (n := 6) hown' hk' hins hini'
    (g := F0 m pc ls rest) rfl (by rw [hb]; exact d0) (Nat.le_refl _) (Nat.le_refl _)
  generalize hT1 : (T.setVm vm₁).pushCell { cls := cX, slots := kX.instanceTypes.map defaultValue, vm := .none } = T1 at X₁ st1
  have hcat : (Value.ref T.heap.size).category = 1 := rfl
  have hcellA : T1.heap[T.heap.size]? = some (freshCell cX kX) := by rw [← hT1]; exact State.heap_pushCell_size _ _
  have d3' : decode c.code (pc + 3) = .ok (.dup, 1) := by rw [hb]; exact d3
  obtain ⟨U, hsteps, hrun, hend, hW, hsame, ce, hce, hO⟩ := X₁.ctorThrow0 hexec htr (own := own) (cls := cls) (names := names) (ic := ic) hown' hcls hnames h (fun x hx => nomatch hx) hfX hkX hcellA (by rw [hhp, hT]; exact Nat.le_refl _)
    (g := { method := m, pc := pc + 4, locals := ls, stack := .ref T.heap.size :: .ref T.heap.size :: rest, locked := none }) rfl hsize rfl rfl (rest := rest) rfl
    (by rw [hb]; exact d4) (by rw [hb]; exact d7) hout hRframes (by simp only [List.map_cons, List.sum_cons, hcat]; omega) hlocks
  obtain ⟨f1, f2⟩ := vx_frame hsame
  rw [hhp] at f1 f2
  have hWs : s.WarmedH U.vm := State.WarmedH.trans hW0 hW
  have hcl : s.vm.findClass cls = some ce.cls := by
    have h9 := hO.cls
    rw [hvm] at h9
    exact h9
  have hall : s.sameButNew ({ U with vm := s.vm } : State) locs mc ms := by
    subst hA
    obtain ⟨e1, e2⟩ := hsame
    rw [State.setFrames_setFrames] at e1
    have h2 : (T.setVm s.vm).sameButNew ({ U with vm := s.vm } : State) [] (0 + 1) (0 + 6) := ⟨e1, e2⟩
    have h3 := X.same.trans h2
    rw [List.append_nil] at h3
    exact h3.mono hc hs
  refine ⟨U, ?_, .threw T.heap.size, hrun, hend, Or.inr ⟨T.heap.size, rfl, cls, ce, locs, hx U hWs.alike f1 (fun q hq => f2 q hq (fun z hz => nomatch hz)), hce, hO.vm, hcl, hWs, hall, hf⟩⟩
  refine st1 _ ?_
  show Steps p.tables e below (T1.setTop { method := m, pc := pc + 3, locals := ls, stack := .ref T.heap.size :: rest, locked := none }) _
  jvm_step X₁.here [X₁.here.top, hexec, d3', Value.category]
  exact hsteps
/-- 'throw new E("text")': new; dup; ldc; invokespecial; athrow -/
theorem vx_throwS {cc : ByteArray} {pc : Nat} (hexec : p.tables.exec = Jvm.exec) (hb : c.code = cc) (hl : l.stackTraces = false) {own cls text : String} {names : List String} {ik is ic mc ms sa : Nat} {A : Nat → Prop}
    (hown : s.vm.findClass own = some m.cls) (hcls : Bundle.fit cls = true) (hnames : ∀ n ∈ names, Bundle.fit n = true)
    (hk : (Cond.classLink own ik cls).before args s = true) (hini : (Cond.initialized cls).before args s = true) (hstr : vk_R own is text sa s) (hat : ∀ w ∈ vx_atS own ic cls names, w.before args s = true)
    (hgood : ∀ w ∈ Cond.classLink own ik cls :: Cond.initialized cls :: vx_atS own ic cls names, vx_ot w = true)
    (hU : vx_Zq Bundle.tN "UNASSIGNED_STACK" Bundle.steD A s s.heap) (hN : vx_Zq Bundle.tN "SUPPRESSED_SENTINEL" Bundle.listD A s s.heap) (hS : va_S A s.heap H locs) (hsize : ls.size = c.maxLocals)
    (d0 : decode cc pc = .ok (.new ik, 3)) (d3 : decode cc (pc + 3) = .ok (.dup, 1)) (d4 : decode cc (pc + 4) = .ok (.ldc is, 2)) (d6 : decode cc (pc + 6) = .ok (.invokespecial ic, 3)) (d9 : decode cc (pc + 9) = .ok (.athrow, 1))
    (hout : ∀ x ∈ c.exceptionTable.toList, covers x (pc + 9) = false)
    (hRframes : names.length + 3 < R.frames) (hRlocals : (rest.map fun v => v.category).sum + (13 * (names.length + 1) + 43) ≤ R.locals) (hRcells : cells + 1 ≤ R.cells) (hRslots : slots + 6 ≤ R.slots) (hlocks : meth.locks = false)
    (hx : ∀ t : State, s.vm.Alike t.vm → H.size ≤ t.heap.size → (∀ q : Nat, q < H.size → t.heap[q]? = H[q]?) → XC cls s t)
    (hf : ∀ z ∈ locs, free z.base) (hc : cells + 1 ≤ mc) (hs : slots + 6 ≤ ms) :
    W p l e R s m args below meth c H locs cells slots (vx_MQ below Qc XC args s mc ms free) (F0 m pc ls rest) := by
  intro T hT X
  have htr : e.platform.stackTraces = false := (show e.platform.stackTraces = l.stackTraces by rw [X.admits.platform]).trans hl
  have Y := vx_rebase X (R' := { frames := R.frames, locals := R.locals, cells := 1, slots := 6 }) (Nat.le_refl _) (Nat.le_refl _) hRcells hRslots
  obtain ⟨s', hA⟩ : ∃ z, z = (T.setVm s.vm).setFrames (.invoking m args :: below) := ⟨_, rfl⟩
  rw [← hA] at Y
  have hvm : s'.vm = s.vm := by rw [hA]; rfl
  have hhp : s'.heap = H := by rw [hA]; exact hT
  have hW0 : s.WarmedH s'.vm := by rw [hvm]; exact State.WarmedH.refl s
  have hat' : ∀ w ∈ vx_atS own ic cls names, w.before args s' = true := fun w hw => vx_ot_at hW0 hvm.symm (hgood w (List.mem_cons_of_mem _ (List.mem_cons_of_mem _ hw))) (hat w hw)
  have hk' : (Cond.classLink own ik cls).before args s' = true := vx_ot_at hW0 hvm.symm (hgood _ List.mem_cons_self) hk
  have hini' : (Cond.initialized cls).before args s' = true := vx_ot_at hW0 hvm.symm (hgood _ (List.mem_cons_of_mem _ List.mem_cons_self)) hini
  have hU' : vx_Zq Bundle.tN "UNASSIGNED_STACK" Bundle.steD A s' s'.heap := by rw [hhp]; exact vx_Zq.moved hW0.alike (hU.kept hS.2.1)
  have hN' : vx_Zq Bundle.tN "SUPPRESSED_SENTINEL" Bundle.listD A s' s'.heap := by rw [hhp]; exact vx_Zq.moved hW0.alike (hN.kept hS.2.1)
  have h : ∀ w ∈ Bundle.ownAtoms own ic cls names, w.before args s' = true := vx_own hat' (vx_isRefq hU'.1) (vx_isRefq hN'.1) hU'.2.word hN'.2.word
  have hown' : s'.vm.findClass own = some m.cls := by rw [hvm]; exact hown
  have hins : (Cond.instantiable cls 6).before args s' = true := h _ (by simp [Bundle.ownAtoms])
  obtain ⟨vm₁, cX, kX, hfX, hkX, -, -, X₁, st1⟩ := Y.newCold hexec (own := own) (C := cls) (index := ik) (n := 6) hown' hk' hins hini'
    (g := F0 m pc ls rest) rfl (by rw [hb]; exact d0) (Nat.le_refl _) (Nat.le_refl _)
  generalize hT1 : (T.setVm vm₁).pushCell { cls := cX, slots := kX.instanceTypes.map defaultValue, vm := .none } = T1 at X₁ st1
  have hcat : (Value.ref T.heap.size).category = 1 := rfl
  have hcellA : T1.heap[T.heap.size]? = some (freshCell cX kX) := by rw [← hT1]; exact State.heap_pushCell_size _ _
  have d3' : decode c.code (pc + 3) = .ok (.dup, 1) := by rw [hb]; exact d3
  have d4' : decode c.code (pc + 4) = .ok (.ldc is, 2) := by rw [hb]; exact d4
  have hstr' : vk_R own is text sa s' := vk_R.warm hW0 hstr
  obtain ⟨U, hsteps, hrun, hend, hW, hsame, ce, hce, hO⟩ := X₁.ctorThrowS hexec htr (own := own) (cls := cls) (names := names) (ic := ic) hown' hcls hnames h (fun x hx => nomatch hx) hfX hkX hcellA (by rw [hhp, hT]; exact Nat.le_refl _) (msg := .ref sa) rfl
    (g := { method := m, pc := pc + 6, locals := ls, stack := .ref sa :: .ref T.heap.size :: .ref T.heap.size :: rest, locked := none }) rfl hsize rfl rfl (rest := rest) rfl
    (by rw [hb]; exact d6) (by rw [hb]; exact d9) hout hRframes (by simp only [List.map_cons, List.sum_cons, hcat]; omega) hlocks
  obtain ⟨f1, f2⟩ := vx_frame hsame
  rw [hhp] at f1 f2
  have hWs : s.WarmedH U.vm := State.WarmedH.trans hW0 hW
  have hcl : s.vm.findClass cls = some ce.cls := by
    have h9 := hO.cls
    rw [hvm] at h9
    exact h9
  have hall : s.sameButNew ({ U with vm := s.vm } : State) locs mc ms := by
    subst hA
    obtain ⟨e1, e2⟩ := hsame
    rw [State.setFrames_setFrames] at e1
    have h2 : (T.setVm s.vm).sameButNew ({ U with vm := s.vm } : State) [] (0 + 1) (0 + 6) := ⟨e1, e2⟩
    have h3 := X.same.trans h2
    rw [List.append_nil] at h3
    exact h3.mono hc hs
  refine ⟨U, ?_, .threw T.heap.size, hrun, hend, Or.inr ⟨T.heap.size, rfl, cls, ce, locs, hx U hWs.alike f1 (fun q hq => f2 q hq (fun z hz => nomatch hz)), hce, hO.vm, hcl, hWs, hall, hf⟩⟩
  refine st1 _ ?_
  show Steps p.tables e below (T1.setTop { method := m, pc := pc + 3, locals := ls, stack := .ref T.heap.size :: rest, locked := none }) _
  jvm_step X₁.here [X₁.here.top, hexec, d3', Value.category]
  exact X₁.ldcString hexec (own := own) (text := text) (index := is) (a := sa) hown' hstr'.1 hstr'.2
    (g := { method := m, pc := pc + 4, locals := ls, stack := .ref T.heap.size :: .ref T.heap.size :: rest, locked := none }) rfl d4' _ hsteps
/-- 'throw new E("text")', the text by a wide index -/
theorem vx_throwSW {cc : ByteArray} {pc : Nat} (hexec : p.tables.exec = Jvm.exec) (hb : c.code = cc) (hl : l.stackTraces = false) {own cls text : String} {names : List String} {ik is ic mc ms sa : Nat} {A : Nat → Prop}
    (hown : s.vm.findClass own = some m.cls) (hcls : Bundle.fit cls = true) (hnames : ∀ n ∈ names, Bundle.fit n = true)
    (hk : (Cond.classLink own ik cls).before args s = true) (hini : (Cond.initialized cls).before args s = true) (hstr : vk_R own is text sa s) (hat : ∀ w ∈ vx_atS own ic cls names, w.before args s = true)
    (hgood : ∀ w ∈ Cond.classLink own ik cls :: Cond.initialized cls :: vx_atS own ic cls names, vx_ot w = true)
    (hU : vx_Zq Bundle.tN "UNASSIGNED_STACK" Bundle.steD A s s.heap) (hN : vx_Zq Bundle.tN "SUPPRESSED_SENTINEL" Bundle.listD A s s.heap) (hS : va_S A s.heap H locs) (hsize : ls.size = c.maxLocals)
    (d0 : decode cc pc = .ok (.new ik, 3)) (d3 : decode cc (pc + 3) = .ok (.dup, 1)) (d4 : decode cc (pc + 4) = .ok (.ldc_w is, 3)) (d7 : decode cc (pc + 7) = .ok (.invokespecial ic, 3)) (d10 : decode cc (pc + 10) = .ok (.athrow, 1))
    (hout : ∀ x ∈ c.exceptionTable.toList, covers x (pc + 10) = false)
    (hRframes : names.length + 3 < R.frames) (hRlocals : (rest.map fun v => v.category).sum + (13 * (names.length + 1) + 43) ≤ R.locals) (hRcells : cells + 1 ≤ R.cells) (hRslots : slots + 6 ≤ R.slots) (hlocks : meth.locks = false)
    (hx : ∀ t : State, s.vm.Alike t.vm → H.size ≤ t.heap.size → (∀ q : Nat, q < H.size → t.heap[q]? = H[q]?) → XC cls s t)
    (hf : ∀ z ∈ locs, free z.base) (hc : cells + 1 ≤ mc) (hs : slots + 6 ≤ ms) :
    W p l e R s m args below meth c H locs cells slots (vx_MQ below Qc XC args s mc ms free) (F0 m pc ls rest) := by
  intro T hT X
  have htr : e.platform.stackTraces = false := (show e.platform.stackTraces = l.stackTraces by rw [X.admits.platform]).trans hl
  have Y := vx_rebase X (R' := { frames := R.frames, locals := R.locals, cells := 1, slots := 6 }) (Nat.le_refl _) (Nat.le_refl _) hRcells hRslots
  obtain ⟨s', hA⟩ : ∃ z, z = (T.setVm s.vm).setFrames (.invoking m args :: below) := ⟨_, rfl⟩
  rw [← hA] at Y
  have hvm : s'.vm = s.vm := by rw [hA]; rfl
  have hhp : s'.heap = H := by rw [hA]; exact hT
  have hW0 : s.WarmedH s'.vm := by rw [hvm]; exact State.WarmedH.refl s
  have hat' : ∀ w ∈ vx_atS own ic cls names, w.before args s' = true := fun w hw => vx_ot_at hW0 hvm.symm (hgood w (List.mem_cons_of_mem _ (List.mem_cons_of_mem _ hw))) (hat w hw)
  have hk' : (Cond.classLink own ik cls).before args s' = true := vx_ot_at hW0 hvm.symm (hgood _ List.mem_cons_self) hk
  have hini' : (Cond.initialized cls).before args s' = true := vx_ot_at hW0 hvm.symm (hgood _ (List.mem_cons_of_mem _ List.mem_cons_self)) hini
  have hU' : vx_Zq Bundle.tN "UNASSIGNED_STACK" Bundle.steD A s' s'.heap := by rw [hhp]; exact vx_Zq.moved hW0.alike (hU.kept hS.2.1)
  have hN' : vx_Zq Bundle.tN "SUPPRESSED_SENTINEL" Bundle.listD A s' s'.heap := by rw [hhp]; exact vx_Zq.moved hW0.alike (hN.kept hS.2.1)
  have h : ∀ w ∈ Bundle.ownAtoms own ic cls names, w.before args s' = true := vx_own hat' (vx_isRefq hU'.1) (vx_isRefq hN'.1) hU'.2.word hN'.2.word
  have hown' : s'.vm.findClass own = some m.cls := by rw [hvm]; exact hown
  have hins : (Cond.instantiable cls 6).before args s' = true := h _ (by simp [Bundle.ownAtoms])
  obtain ⟨vm₁, cX, kX, hfX, hkX, -, -, X₁, st1⟩ := Y.newCold hexec (own := own) (C := cls) (index := ik) (n := 6) hown' hk' hins hini'
    (g := F0 m pc ls rest) rfl (by rw [hb]; exact d0) (Nat.le_refl _) (Nat.le_refl _)
  generalize hT1 : (T.setVm vm₁).pushCell { cls := cX, slots := kX.instanceTypes.map defaultValue, vm := .none } = T1 at X₁ st1
  have hcat : (Value.ref T.heap.size).category = 1 := rfl
  have hcellA : T1.heap[T.heap.size]? = some (freshCell cX kX) := by rw [← hT1]; exact State.heap_pushCell_size _ _
  have d3' : decode c.code (pc + 3) = .ok (.dup, 1) := by rw [hb]; exact d3
  have d4' : decode c.code (pc + 4) = .ok (.ldc_w is, 3) := by rw [hb]; exact d4
  have hstr' : vk_R own is text sa s' := vk_R.warm hW0 hstr
  obtain ⟨U, hsteps, hrun, hend, hW, hsame, ce, hce, hO⟩ := X₁.ctorThrowS hexec htr (own := own) (cls := cls) (names := names) (ic := ic) hown' hcls hnames h (fun x hx => nomatch hx) hfX hkX hcellA (by rw [hhp, hT]; exact Nat.le_refl _) (msg := .ref sa) rfl
    (g := { method := m, pc := pc + 7, locals := ls, stack := .ref sa :: .ref T.heap.size :: .ref T.heap.size :: rest, locked := none }) rfl hsize rfl rfl (rest := rest) rfl
    (by rw [hb]; exact d7) (by rw [hb]; exact d10) hout hRframes (by simp only [List.map_cons, List.sum_cons, hcat]; omega) hlocks
  obtain ⟨f1, f2⟩ := vx_frame hsame
  rw [hhp] at f1 f2
  have hWs : s.WarmedH U.vm := State.WarmedH.trans hW0 hW
  have hcl : s.vm.findClass cls = some ce.cls := by
    have h9 := hO.cls
    rw [hvm] at h9
    exact h9
  have hall : s.sameButNew ({ U with vm := s.vm } : State) locs mc ms := by
    subst hA
    obtain ⟨e1, e2⟩ := hsame
    rw [State.setFrames_setFrames] at e1
    have h2 : (T.setVm s.vm).sameButNew ({ U with vm := s.vm } : State) [] (0 + 1) (0 + 6) := ⟨e1, e2⟩
    have h3 := X.same.trans h2
    rw [List.append_nil] at h3
    exact h3.mono hc hs
  refine ⟨U, ?_, .threw T.heap.size, hrun, hend, Or.inr ⟨T.heap.size, rfl, cls, ce, locs, hx U hWs.alike f1 (fun q hq => f2 q hq (fun z hz => nomatch hz)), hce, hO.vm, hcl, hWs, hall, hf⟩⟩
  refine st1 _ ?_
  show Steps p.tables e below (T1.setTop { method := m, pc := pc + 3, locals := ls, stack := .ref T.heap.size :: rest, locked := none }) _
  jvm_step X₁.here [X₁.here.top, hexec, d3', Value.category]
  exact X₁.ldcStringW hexec (own := own) (text := text) (index := is) (a := sa) hown' hstr'.1 hstr'.2
    (g := { method := m, pc := pc + 4, locals := ls, stack := .ref T.heap.size :: .ref T.heap.size :: rest, locked := none }) rfl d4' _ hsteps
end Ends
section Bodies
variable {l : Launch}
theorem vx_ofW {y : MethodName} {ws ws' : List Cond} {rm : Room} {Pc : Array Value → State → Prop} {Qc : Array Value → State → Outcome → State → Prop} {XC : String → State → State → Prop} {mc ms : Nat} {free : Addr → Prop} {cc : ByteArray} {maxL : Nat} {ret : Option FieldType}
    (hy : plainName y.cls = true) (hw : ws = Cond.code y cc maxL ret :: ws')
    (body : ∀ p e s m args below meth c s₁, BodyLoose p l y (headSpec ws rm) cc maxL ret e s m args below meth c s₁ → c.maxLocals = maxL → (∀ x ∈ c.exceptionTable.toList, False) → Pc args s →
      W p l e (headSpec ws rm).room s m args below meth c s.heap [] 0 0 (vx_MQ below Qc XC args s mc ms free) (entryFrame m args maxL)) : vx_Met l y ws rm Pc Qc XC mc ms free := by
  refine MetFree.of_bodyS (code := cc) (maxLocals := maxL) (ret := ret) hy ?_ ?_
  · intro args s m h hn
    obtain ⟨meth, c, h1, h2, h3, h4, h5, h6, -, -⟩ := Cond.code_spec hn (atoms_spec (ws := ws) h _ (by rw [hw]; exact List.mem_cons_self))
    exact ⟨meth, c, h1, h2, h3, h4, h5, h6⟩
  · intro p e s m args below meth c s₁ B hml hP _
    have hh0 : s₁.heap = s.heap := by rw [B.state]; rfl
    have ht : ∀ x ∈ c.exceptionTable.toList, False := by
      obtain ⟨meth9, c9, h1, h2, -, -, -, -, h7, -⟩ := Cond.code_spec B.named (atoms_spec (ws := ws) B.pre _ (by rw [hw]; exact List.mem_cons_self))
      cases Option.some.inj (h1.symm.trans B.method)
      cases Option.some.inj (h2.symm.trans (Stand.of_body B).code)
      intro x hx
      rw [Array.isEmpty_iff.mp h7] at hx
      cases hx
    obtain ⟨t, a1, o, b1, b2, b3⟩ := body p e s m args below meth c s₁ B hml ht hP s₁ hh0 (Stand.of_body B)
    exact ⟨t, o, a1, b1, b2, b3⟩
/-- the table of a body with handlers -/
theorem vx_table {p : Program} {x y : MethodName} {S : Spec} {cc bytes : ByteArray} {maxL maxL' : Nat} {ret ret' : Option FieldType} {e : Env} {s s₁ : State} {m : MethodId} {args : Array Value} {below : List Frame} {meth : Method} {c : Code} {hh : List (Nat × Nat × Nat × Nat)}
    (B : BodyLoose p l y S cc maxL ret e s m args below meth c s₁) (h : (Cond.codeWith y bytes maxL' ret' hh).before args s = true) : c.exceptionTable.toList = tableOf hh := by
  obtain ⟨m9, meth9, c9, hn9, h1, h2, -, -, h6, -⟩ := Cond.codeWith_spec h
  cases Option.some.inj (hn9.symm.trans B.named)
  cases Option.some.inj (h1.symm.trans B.method)
  cases Option.some.inj (h2.symm.trans (Stand.of_body B).code)
  rw [← h6, table_eq]
end Bodies
end VXA
/-! ===== END ===== -/
/-! ===== BEGIN a static call of a method with an exception table ===== -/
section VXS
variable {p : Program} {l : Launch} {e : Env} {R : Room} {s : State} {m : MethodId} {args : Array Value} {below : List Frame} {meth : Method} {c : Code} {T : State} {H : Heap} {locs : List Loc} {cells slots : Nat}
abbrev vx_CSW (R : Room) (s : State) (args : Array Value) (own : String) (index : Nat) (y : MethodName) (bytes : ByteArray) (maxL : Nat) (ret : Option FieldType) (hh : List (Nat × Nat × Nat × Nat)) (ws : List Cond) (rm : Room) (mc ms n : Nat) : Prop :=
  (rm.cells = mc ∧ rm.slots = ms ∧ rm.frames + 1 ≤ R.frames ∧ 8 + (maxL + 11) + rm.locals ≤ R.locals ∧ (∀ w ∈ ws, ∀ (a' : Array Value) (U : State), s.WarmedH U.vm → w.before a' U = true) ∧ Cond.codeWith y bytes maxL ret hh ∈ ws) ∧
  (Cond.codeWith y bytes maxL ret hh).before args s = true ∧ (Cond.initialized y.cls).before args s = true ∧ (y.cls ≠ "java/lang/invoke/MethodHandle" ∧ y.cls ≠ "java/lang/invoke/VarHandle") ∧
  (∀ sig, parseMethodDescriptor y.desc = some sig → n = sig.parameters.length) ∧ (Cond.methodLink own index y).before args s = true ∧ (Cond.static y).before args s = true
theorem vx_cwSW {own : String} {index maxL mc ms : Nat} {y : MethodName} {bytes : ByteArray} {ret : Option FieldType} {hh : List (Nat × Nat × Nat × Nat)} {Ts ws ws' : List Cond} {rm : Room} (n : Nat) (ht : ∀ w ∈ Ts, w.before args s = true) (hT : GoodIn Ts (va_wsS own index y ws)) (hw : ws = Cond.codeWith y bytes maxL ret hh :: ws') (hrc : rm.cells = mc) (hrs : rm.slots = ms)
    (hd : y.cls ≠ "java/lang/invoke/MethodHandle" ∧ y.cls ≠ "java/lang/invoke/VarHandle" ∧ (parseMethodDescriptor y.desc).map (fun d => d.parameters.length) = some n) (hR : rm.frames + 1 ≤ R.frames ∧ 8 + (maxL + 11) + rm.locals ≤ R.locals) :
    vx_CSW R s args own index y bytes maxL ret hh ws rm mc ms n := by
  have ok : ∀ w ∈ va_wsS own index y ws, w.before args s = true := fun w h => ht w (hT w h).1
  have hG : GoodIn Ts ws := fun w h => hT w (by unfold va_wsS; exact List.mem_append_right _ h)
  have hc : Cond.codeWith y bytes maxL ret hh ∈ ws := by rw [hw]; exact List.mem_cons_self
  refine ⟨⟨hrc, hrs, hR.1, hR.2, pay_in ht hG, hc⟩, ht _ (hG _ hc).1, ok _ (by simp [va_wsS]), ⟨hd.1, hd.2.1⟩, fun sig h => ?_, ok _ (by simp [va_wsS]), ok _ (by simp [va_wsS])⟩
  have h2 := hd.2.2
  rw [h] at h2
  exact (Option.some.inj h2).symm
theorem vx_callSW (X : Stand p l e R s m args below meth c T locs cells slots) (hexec : p.tables.exec = Jvm.exec) {own : String} {index : Nat} {y : MethodName} {bytes : ByteArray} {maxL : Nat} {ret : Option FieldType} {hh : List (Nat × Nat × Nat × Nat)}
    (hown : s.vm.findClass own = some m.cls) (hlink : (Cond.methodLink own index y).before args s = true) (hstat : (Cond.static y).before args s = true) (hinit : (Cond.initialized y.cls).before args s = true)
    (hcode : (Cond.codeWith y bytes maxL ret hh).before args s = true) (hy : y.cls ≠ "java/lang/invoke/MethodHandle" ∧ y.cls ≠ "java/lang/invoke/VarHandle")
    {W9 : Nat} {Pre : Pt → Array Value → Prop} {Post : Pt → Array Value → Option Value → Pt → Prop} (hK : Back l R p e below s args y 3 W9 Pre Post)
    {g : JFrame} (hg : g.method = m) (hsize : g.locals.size = c.maxLocals) {argsL rest : List Value} (hlen : ∀ sig, parseMethodDescriptor y.desc = some sig → argsL.length = sig.parameters.length)
    (hstack : g.stack = argsL.reverse ++ rest) (hW : 2 * g.monitorRoom + (rest.map fun v => v.category).sum ≤ W9) (hdg : decode c.code g.pc = .ok (.invokestatic index, 3))
    (hpre : ∀ vm₁, s.WarmedH vm₁ → Pre ⟨T.setVm vm₁, locs, cells, slots⟩ argsL.toArray) :
    ∃ (v : Option Value) (vm₁ : Vm) (B : Pt), s.WarmedH vm₁ ∧ Stand p l e R s m args below meth c B.U B.locs B.cells B.slots ∧ Post ⟨T.setVm vm₁, locs, cells, slots⟩ argsL.toArray v B ∧
      ∀ target, Steps p.tables e below (B.U.setTop { g with pc := g.pc + 3, stack := v.toList ++ rest }) target → Steps p.tables e below (T.setTop g) target := by
  obtain ⟨mk, methM, cM, hnamed, hmethM, -, -, -, -, -, -, hsigM⟩ := Cond.codeWith_spec hcode
  have hstatic : methM.isStatic = true := Cond.static_spec hnamed hmethM hstat
  obtain ⟨kP, hkP, -⟩ := className_of_methodNamed hnamed
  have hinitP : kP.init = .initialized := Cond.initialized_spec (findClass_of_methodNamed hnamed) hkP hinit
  obtain ⟨vm₁, X₁, hstep₁⟩ := X.invokestatic hexec hown hlink hnamed hmethM hstatic hkP hinitP hy (g := g) hg (argsL := argsL) (rest := rest) (hlen _ hsigM) hstack hdg
  obtain ⟨v, B, X', hpost, hsteps⟩ := hK m meth c ⟨T.setVm vm₁, locs, cells, slots⟩ { g with stack := rest } (.invokestatic index) mk argsL.toArray X₁ hg hsize hdg hW (X₁.named hnamed) (hpre vm₁ X₁.warmed)
  exact ⟨v, vm₁, B, X₁.warmed, X', hpost, fun target h => hstep₁ _ fun acts => by rw [doInvoke_state]; exact hsteps.trans h⟩
theorem vx_runSW {y : MethodName} {bytes cc : ByteArray} {maxL nL mc ms n index : Nat} {ret : Option FieldType} {hh : List (Nat × Nat × Nat × Nat)} {ws : List Cond} {rm : Room} {Pc : Array Value → State → Prop} {Qc : Array Value → State → Outcome → State → Prop} {free : Addr → Prop} {Ts : List Cond} {own : String} {As rest : List Value} {g : JFrame}
    (S : CallFix p m c cc nL s args Ts own) (hM : Met l y ws rm Pc Qc mc ms free) (cw : vx_CSW R s args own index y bytes maxL ret hh ws rm mc ms n) (hp : PreS s H Pc As)
    (hg : g.method = m) (hn : As.length = n) (hsize : g.locals.size = nL) (hstack : g.stack = As.reverse ++ rest) (hW : 2 * g.monitorRoom + (rest.map fun v => v.category).sum ≤ 8) (hdg : decode cc g.pc = .ok (.invokestatic index, 3)) (hf : cells + mc ≤ R.cells ∧ slots + ms ≤ R.slots) :
    va_Run p l e R s m args below meth c H locs cells slots mc ms g rest (Qc As.toArray) (free) := by
  obtain ⟨⟨hrc, hrs, hfr, hlo, hws, hcw⟩, hcode, hini, hy, hlen, hl, hstt⟩ := cw
  have hK : Back l R p e below s args y 3 8 (PreOf R mc ms Pc) (PostOf Qc mc ms free) := va_backW (hh := hh) (bytes := bytes) (maxL := maxL) (ret := ret) hM hp.1 hrc hrs hfr hlo hws hcw (fun a' U hW => word_at hW (Or.inl (by first | rfl | simp [Cond.onTables, Cond.keeps, Cond.steady])) hini)
  obtain ⟨hx, hb, hml, ho, -⟩ := S
  intro T hT X
  obtain ⟨v, vm₁, ⟨U', l2, c2, s2⟩, hW₁, X', ⟨g', mk, t, L, e1, e2, hq, h1, hL, h2, h3⟩, st⟩ := vx_callSW X hx (hh := hh) (bytes := bytes) (maxL := maxL) (ret := ret) ho hl hstt hini hcode hy hK hg (hsize.trans hml.symm) (argsL := As) (rest := rest) (fun sig h => hn.trans (hlen sig h)) hstack hW (by rw [hb]; exact hdg)
    (fun vm₁ hW₁ => ⟨hf.1, hf.2, hp.2 (T.setVm vm₁) hT hW₁⟩)
  dsimp only [Pt.U, Pt.locs, Pt.cells, Pt.slots] at X' e1 e2 h1 h2 h3 st
  subst h1; subst h2; subst h3
  exact ⟨v, (T.setVm vm₁).calling g' mk As.toArray, t, U', L, hT, X', hL, e1, e2, hq, st⟩
/-- not caught here, past rows that name other classes: it goes on to the caller -/
theorem vx_outP {p : Program} {l : Launch} {e : Env} {R : Room} {s : State} {m : MethodId} {args : Array Value} {below : List Frame} {meth : Method} {c : Code} {H : Heap} {locs : List Loc} {cells slots : Nat} {free : Addr → Prop} {ls : Array Slot} {rest : List Value} {Qc : Array Value → State → Outcome → State → Prop} {XC : String → State → State → Prop}
    {pc : Nat} {own E : String} {ce : Cell} {q : Addr} {mc ms : Nat} (hown : s.vm.findClass own = some m.cls) (hlocks : meth.locks = false)
    (hpass : ∀ z ∈ c.exceptionTable.toList, covers z pc = false ∨ (z.catchType ≠ 0 ∧ ∃ nm : String, (Cond.classLink own z.catchType nm).before args s = true ∧ va_Nc E nm s)) (hcell : H[q]? = some ce) (hv : ce.vm = .none) (hcl : s.vm.findClass E = some ce.cls)
    (hx : ∀ t : State, t.heap = H → s.vm.Alike t.vm → XC E s t) (hf : ∀ z ∈ locs, free z.base) (hc : cells ≤ mc) (hs : slots ≤ ms) :
    vx_W p l e R s m args below meth c H locs cells slots (vx_MQ below Qc XC args s mc ms free) (F0 m pc ls rest) q := by
  intro T hT X
  have hpl : e.platform.magicAccessors = ({} : Platform).magicAccessors := by rw [X.admits.platform]
  obtain ⟨vm', hW', X', st⟩ := X.outThrough hlocks q (g := F0 m pc ls rest) rfl rfl rfl (cell := ce) (by rw [hT]; exact hcell) (by rw [hv]; rfl)
    (by obtain ⟨k9, h9, -⟩ := Vm.findClass_spec hcl; exact ⟨k9, h9⟩) (fun z hz => by
      rcases hpass z hz with h | ⟨hz0, nm, hl1, hn1⟩
      · exact Or.inl h
      · obtain ⟨c6, hc6, hcl6⟩ := Cond.classLink_spec hown hl1 e.platform hpl
        obtain ⟨a8, b8, h1, h2, h3⟩ := hn1
        cases Option.some.inj (h1.symm.trans hcl)
        cases Option.some.inj (h2.symm.trans hc6)
        exact Or.inr ⟨hz0, _, hcl6, h3⟩)
  obtain ⟨g₀, hfr⟩ := X'.frames_eq
  have hcell9 : ((T.setVm vm').setFrames (.throwing q :: below)).heap[q]? = some ce := by
    show T.heap[q]? = some ce
    rw [hT]; exact hcell
  have hend : Ended ((T.setVm vm').setFrames (.throwing q :: below)) below (.threw q) := State.frames_setFrames _ (State.cur_lt_of_frames hfr)
  refine ⟨(T.setVm vm').setFrames (.throwing q :: below), ?_, .threw q, X'.here.running, hend, Or.inr ⟨q, rfl, E, ce, locs, hx _ hT (X'.ends _).1.alike, hcell9, hv, hcl, (X'.ends _).1, (X'.ends _).2.mono hc hs, hf⟩⟩
  rw [X.pushThrowing_eq]
  exact st
/-- a thing of a world lies in the heap -/
theorem vx_lt {D : va_G} {cl : List vw_C} {ws : va_W} {H1 : Heap} (h : va_P D cl ws H1) {k : Nat} {q : Nat × va_E} (hk : ws[k]? = some q) : q.1 < H1.size := (h k q hk).lt
end VXS
/-! ===== END ===== -/
/-! ===== BEGIN methods with a table of their own: called by a name, returning or throwing ===== -/
section VXH
/-! vx_backW, vx_callVX, vx_callSX, vx_callVW, vx_runVW, vx_runVX, vx_runSX, vx_ofWH follow the same proofs as their sisters above (Free/Laws.lean, Shelf42/LK1.lean); vx_outP calls Shelf42/NT130.lean (outThrough). -/
section
variable {l : Launch} {R : Room} {p : Program} {e : Env} {below : List Frame} {s : State} {sargs : Array Value} {y : MethodName} {len W9 : Nat}
theorem vx_backW {ws : List Cond} {rm : Room} {Pc : Array Value → State → Prop} {Qc : Array Value → State → Outcome → State → Prop} {XC : String → State → State → Prop} {mc ms : Nat} {free : Addr → Prop} {bytes : ByteArray} {maxL : Nat} {ret : Option FieldType} {hh : List (Nat × Nat × Nat × Nat)}
    (hM : vx_Met l y ws rm Pc Qc XC mc ms free) (hblind : FrameBlind Pc) (hrc : rm.cells = mc) (hrs : rm.slots = ms)
    (hframes : rm.frames + 1 ≤ R.frames) (hlocals : W9 + (maxL + 11) + rm.locals ≤ R.locals)
    (hws : ∀ w ∈ ws, ∀ a' U, s.WarmedH U.vm → w.before a' U = true) (hcode : Cond.codeWith y bytes maxL ret hh ∈ ws) (hinit : ∀ a' U, s.WarmedH U.vm → (Cond.initialized y.cls).before a' U = true) :
    vx_Back l R p e below s sargs y len W9 (PreOf R mc ms Pc) (PostOf Qc mc ms free) (vx_Post XC mc ms free) := by
  intro m meth c A g ig mk a X hg hsize hdg hW hn hp
  have h1 : (headSpec ws rm).pre.before a A.U = true := atoms_intro fun w hw => hws w hw _ _ X.warmed
  have h2 : (Cond.codeWith y bytes maxL ret hh).before a A.U = true := hws _ hcode _ _ X.warmed
  have h3 : (Cond.initialized y.cls).before a A.U = true := hinit _ _ X.warmed
  have h4 : A.cells + (headSpec ws rm).room.cells ≤ R.cells := by rw [show (headSpec ws rm).room.cells = mc from hrc]; exact hp.1
  have h5 : A.slots + (headSpec ws rm).room.slots ≤ R.slots := by rw [show (headSpec ws rm).room.slots = ms from hrs]; exact hp.2.1
  have hPc : Pc a (A.U.calling g mk a) := hblind _ _ _ _ hp.2.2
  obtain ⟨U, Ls, c0, s0⟩ := A
  dsimp only [Pt.U, Pt.locs, Pt.cells, Pt.slots] at h1 h2 h3 h4 h5 X hn hPc ⊢
  obtain ⟨m9, methY, cY, hn9, hmY, hcY, -, hlY, -⟩ := Cond.codeWith_spec h2
  cases Option.some.inj (hn9.symm.trans hn)
  obtain ⟨kY, hkY, -⟩ := className_of_methodNamed hn
  have hinitY : kY.init = .initialized := Cond.initialized_spec (findClass_of_methodNamed hn) hkY h3
  have h : At U g.method c below := by rw [hg]; exact X.here
  have hlocals9 : W9 + (maxL + 11) + (headSpec ws rm).room.locals ≤ R.locals := hlocals
  have happ : (headSpec ws rm).appliesLoose y e.platform (U.calling g mk a) = true :=
    Spec.appliesLoose_calling (g := g) h hdg hn hkY hinitY
      (X.room_calling (g := g) (R' := (headSpec ws rm).room) hsize hmY hcY hframes (by rw [hlY]; omega) h4 h5) h1
  obtain ⟨mid, hmid⟩ := h.above
  have hfr : (U.setTop g).frames = (.java g :: mid) ++ below := by rw [State.frames_setTop' g h.top, hmid]; rfl
  obtain ⟨o, s₂, hsteps, -, hend, hq⟩ := Steps.callFree hM p X.admits X.cas X.clock (acts := []) hfr happ hPc trivial
  have hq' : vx_Q Qc XC mc ms free a (U.calling g mk a) o s₂ := hq
  rw [State.frames_setTop' g h.top] at hend
  obtain ⟨g₀, hg0⟩ := Option.isSome_iff_exists.mp h.top
  obtain ⟨r, hr⟩ := State.topJava?_eq_some.mp hg0
  have hr' : (({ U with heap := s₂.heap, slotsUsed := s₂.slotsUsed } : State).setVm s₂.vm).frames = .java g₀ :: r := hr
  rcases hq' with ⟨hqc, L, hfe, hL⟩ | ⟨q, rfl, E, ce, L, hx, hce, hcv, hcl, hW₂, hsm, hL⟩
  · obtain ⟨⟨v, rfl⟩, hW₂, e2, q2, q3, q4, q5, q6⟩ := id hfe
    have e3 : s₂ = ({ (U.calling g mk a).setFrames s₂.frames with heap := s₂.heap, slotsUsed := s₂.slotsUsed } : State).setVm s₂.vm := by
      have : s₂ = ({ s₂ with vm := (U.calling g mk a).vm } : State).setVm s₂.vm := rfl
      rw [e2] at this
      exact this
    obtain ⟨c₂, i₂, len₂, hc₂, hd₂, hf₂⟩ := hend
    have hW' : U.WarmedH s₂.vm := hW₂
    have hcc : c₂ = c := by
      have h1 : s₂.code? g.method = U.code? g.method := by
        rw [State.code?_eq, State.code?_eq, hW'.alike.method?]
      exact Option.some.inj (hc₂.symm.trans (h1.trans h.code))
    subst hcc
    have hlen : len₂ = len := by rw [hdg] at hd₂; cases hd₂; rfl
    subst hlen
    have hs₂ : s₂ = (({ U with heap := s₂.heap, slotsUsed := s₂.slotsUsed } : State).setVm s₂.vm).setTop { g with pc := g.pc + len₂, stack := v.toList ++ g.stack } := by
      refine e3.trans ?_
      rw [hf₂, State.calling_eq h.top, State.setFrames_setFrames, State.setTop_of_frames _ hr', hr]
      rfl
    have hsame : U.sameButNew ({ U with heap := s₂.heap, slotsUsed := s₂.slotsUsed } : State) L mc ms := by
      refine ⟨?_, q2, q3, q4, q5, q6⟩
      obtain ⟨t, ht, -⟩ := State.frames_cons hr
      show ({ U with heap := s₂.heap, slotsUsed := s₂.slotsUsed } : State) = { U.setFrames U.frames with heap := s₂.heap, slotsUsed := s₂.slotsUsed }
      rw [State.setFrames_self ht]
    subst hg
    refine Or.inl ⟨v, ⟨(({ U with heap := s₂.heap, slotsUsed := s₂.slotsUsed } : State).setVm s₂.vm), Ls ++ L, c0 + mc, s0 + ms⟩,
      ⟨X.admits, X.cas, X.clock, X.frames, X.room, X.hears, X.method, X.code, (X.here.setHeapUsed s₂.heap s₂.slotsUsed).setVm hW'.alike, X.tail, State.WarmedH.trans X.warmed hW', X.limits, X.bytes, X.same.trans (hsame.setVm s.vm)⟩,
      ⟨g, mk, s₂, L, rfl, rfl, hqc, rfl, hL, rfl, rfl⟩, ?_⟩
    show Steps p.tables e below _ ((({ U with heap := s₂.heap, slotsUsed := s₂.slotsUsed } : State).setVm s₂.vm).setTop { g with pc := g.pc + len₂, stack := v.toList ++ g.stack })
    rw [← hs₂]
    exact hsteps
  · obtain ⟨e2, q2, q3, q4, q5, q6⟩ := id hsm
    have e3 : s₂ = ({ (U.calling g mk a).setFrames s₂.frames with heap := s₂.heap, slotsUsed := s₂.slotsUsed } : State).setVm s₂.vm := by
      have : s₂ = ({ s₂ with vm := (U.calling g mk a).vm } : State).setVm s₂.vm := rfl
      rw [e2] at this
      exact this
    have hf₂ : s₂.frames = .throwing q :: .java g :: U.frames.tail := hend
    have hW' : U.WarmedH s₂.vm := hW₂
    have hs₂ : s₂ = ((({ U with heap := s₂.heap, slotsUsed := s₂.slotsUsed } : State).setVm s₂.vm).setTop g).pushFrame (.throwing q) := by
      refine e3.trans ?_
      rw [hf₂, State.calling_eq h.top, State.setFrames_setFrames, State.pushFrame, State.frames_setTop _ hr', State.setTop_of_frames _ hr', State.setFrames_setFrames, hr]
      rfl
    have hsame : U.sameButNew ({ U with heap := s₂.heap, slotsUsed := s₂.slotsUsed } : State) L mc ms := by
      refine ⟨?_, q2, q3, q4, q5, q6⟩
      obtain ⟨t, ht, -⟩ := State.frames_cons hr
      show ({ U with heap := s₂.heap, slotsUsed := s₂.slotsUsed } : State) = { U.setFrames U.frames with heap := s₂.heap, slotsUsed := s₂.slotsUsed }
      rw [State.setFrames_self ht]
    subst hg
    refine Or.inr ⟨q, ⟨(({ U with heap := s₂.heap, slotsUsed := s₂.slotsUsed } : State).setVm s₂.vm), Ls ++ L, c0 + mc, s0 + ms⟩,
      ⟨X.admits, X.cas, X.clock, X.frames, X.room, X.hears, X.method, X.code, (X.here.setHeapUsed s₂.heap s₂.slotsUsed).setVm hW'.alike, X.tail, State.WarmedH.trans X.warmed hW', X.limits, X.bytes, X.same.trans (hsame.setVm s.vm)⟩,
      ⟨g, mk, s₂, L, E, ce, rfl, rfl, hx, hce, hcv, hcl, rfl, hL, rfl, rfl⟩, ?_⟩
    show Steps p.tables e below _ (((({ U with heap := s₂.heap, slotsUsed := s₂.slotsUsed } : State).setVm s₂.vm).setTop g).pushFrame (.throwing q))
    rw [← hs₂]
    exact hsteps
end
variable {p : Program} {l : Launch} {e : Env} {R : Room} {s : State} {m : MethodId} {args : Array Value} {below : List Frame} {meth : Method} {c : Code} {T : State} {H : Heap} {locs : List Loc} {cells slots : Nat}
theorem vx_callVX (X : Stand p l e R s m args below meth c T locs cells slots) (hexec : p.tables.exec = Jvm.exec) {own C : String} {index : Nat} {y : MethodName} {bytes : ByteArray} {maxL : Nat} {ret : Option FieldType} {hh : List (Nat × Nat × Nat × Nat)}
    (hown : s.vm.findClass own = some m.cls) (hlink : (Cond.methodLink own index y).before args s = true) (hinst : (Cond.instanceMethod y).before args s = true) (hsel : (Cond.selects C y y).before args s = true)
    (hcode : (Cond.codeWith y bytes maxL ret hh).before args s = true) (hy : y.cls ≠ "java/lang/invoke/MethodHandle" ∧ y.cls ≠ "java/lang/invoke/VarHandle")
    {W9 : Nat} {Pre : Pt → Array Value → Prop} {Post : Pt → Array Value → Option Value → Pt → Prop} {PostX : Pt → Array Value → Addr → Pt → Prop} (hK : vx_Back l R p e below s args y 3 W9 Pre Post PostX)
    {b : Addr} {cellB : Cell} (hcell : T.heap[b]? = some cellB) (hobj : cellB.vm.isStatics = false) (hcls : s.vm.findClass C = some cellB.cls)
    {g : JFrame} (hg : g.method = m) (hsize : g.locals.size = c.maxLocals) {argsL rest : List Value} (hlen : ∀ sig, parseMethodDescriptor y.desc = some sig → argsL.length = sig.parameters.length)
    (hstack : g.stack = argsL.reverse ++ .ref b :: rest) (hW : 2 * g.monitorRoom + (rest.map fun v => v.category).sum ≤ W9) (hdg : decode c.code g.pc = .ok (.invokevirtual index, 3))
    (hpre : ∀ vm₁, s.WarmedH vm₁ → Pre ⟨T.setVm vm₁, locs, cells, slots⟩ (Value.ref b :: argsL).toArray) :
    (∃ (v : Option Value) (vm₁ : Vm) (B : Pt), s.WarmedH vm₁ ∧ Stand p l e R s m args below meth c B.U B.locs B.cells B.slots ∧ Post ⟨T.setVm vm₁, locs, cells, slots⟩ (Value.ref b :: argsL).toArray v B ∧
      ∀ target, Steps p.tables e below (B.U.setTop { g with pc := g.pc + 3, stack := v.toList ++ rest }) target → Steps p.tables e below (T.setTop g) target) ∨
    (∃ (q : Addr) (vm₁ : Vm) (B : Pt), s.WarmedH vm₁ ∧ Stand p l e R s m args below meth c B.U B.locs B.cells B.slots ∧ PostX ⟨T.setVm vm₁, locs, cells, slots⟩ (Value.ref b :: argsL).toArray q B ∧
      Steps p.tables e below (T.setTop g) ((B.U.setTop { g with stack := rest }).pushFrame (.throwing q))) := by
  obtain ⟨mk, methM, hnamed, hmethM, hstM, habM⟩ := Cond.instanceMethod_spec hinst
  obtain ⟨m8, methM', cM, hn8, hmethM', -, -, -, -, -, -, hsigM⟩ := Cond.codeWith_spec hcode
  cases Option.some.inj (hn8.symm.trans hnamed)
  cases hmethM.symm.trans hmethM'
  obtain ⟨c2, r2, m2, q1, q2, q3, q4, kP, hkP, hkPi⟩ := Cond.selects_spec hsel
  cases hcls.symm.trans q1
  cases (State.methodFound?_of_named hnamed hy).symm.trans q2
  cases hnamed.symm.trans q3
  have hselP : selectMethod e.platform s.vm cellB.cls mk = .method mk := by rw [Launch.admits_selectMethod X.admits]; exact q4
  obtain ⟨vm₁, X₁, hstep₁⟩ := X.invokevirtual hexec hown hlink hnamed hmethM hstM hkP hkPi hy (a := b) (cell := cellB) hcell
    (fun z h => by rw [h] at hobj; cases hobj) hselP hmethM habM hkP hkPi (g := g) hg (argsL := argsL) (rest := rest) (hlen _ hsigM) hstack hdg
  rcases hK m meth c ⟨T.setVm vm₁, locs, cells, slots⟩ { g with stack := rest } (.invokevirtual index) mk (Value.ref b :: argsL).toArray X₁ hg hsize hdg hW (X₁.named hnamed) (hpre vm₁ X₁.warmed) with ⟨v, B, X', hpost, hsteps⟩ | ⟨q, B, X', hpost, hsteps⟩
  · exact Or.inl ⟨v, vm₁, B, X₁.warmed, X', hpost, fun target h => hstep₁ _ fun acts => by rw [doInvoke_state]; exact hsteps.trans h⟩
  · exact Or.inr ⟨q, vm₁, B, X₁.warmed, X', hpost, hstep₁ _ fun acts => by rw [doInvoke_state]; exact hsteps⟩
theorem vx_callSX (X : Stand p l e R s m args below meth c T locs cells slots) (hexec : p.tables.exec = Jvm.exec) {own : String} {index : Nat} {y : MethodName} {bytes : ByteArray} {maxL : Nat} {ret : Option FieldType} {hh : List (Nat × Nat × Nat × Nat)}
    (hown : s.vm.findClass own = some m.cls) (hlink : (Cond.methodLink own index y).before args s = true) (hstat : (Cond.static y).before args s = true) (hinit : (Cond.initialized y.cls).before args s = true)
    (hcode : (Cond.codeWith y bytes maxL ret hh).before args s = true) (hy : y.cls ≠ "java/lang/invoke/MethodHandle" ∧ y.cls ≠ "java/lang/invoke/VarHandle")
    {W9 : Nat} {Pre : Pt → Array Value → Prop} {Post : Pt → Array Value → Option Value → Pt → Prop} {PostX : Pt → Array Value → Addr → Pt → Prop} (hK : vx_Back l R p e below s args y 3 W9 Pre Post PostX)
    {g : JFrame} (hg : g.method = m) (hsize : g.locals.size = c.maxLocals) {argsL rest : List Value} (hlen : ∀ sig, parseMethodDescriptor y.desc = some sig → argsL.length = sig.parameters.length)
    (hstack : g.stack = argsL.reverse ++ rest) (hW : 2 * g.monitorRoom + (rest.map fun v => v.category).sum ≤ W9) (hdg : decode c.code g.pc = .ok (.invokestatic index, 3))
    (hpre : ∀ vm₁, s.WarmedH vm₁ → Pre ⟨T.setVm vm₁, locs, cells, slots⟩ argsL.toArray) :
    (∃ (v : Option Value) (vm₁ : Vm) (B : Pt), s.WarmedH vm₁ ∧ Stand p l e R s m args below meth c B.U B.locs B.cells B.slots ∧ Post ⟨T.setVm vm₁, locs, cells, slots⟩ argsL.toArray v B ∧
      ∀ target, Steps p.tables e below (B.U.setTop { g with pc := g.pc + 3, stack := v.toList ++ rest }) target → Steps p.tables e below (T.setTop g) target) ∨
    (∃ (q : Addr) (vm₁ : Vm) (B : Pt), s.WarmedH vm₁ ∧ Stand p l e R s m args below meth c B.U B.locs B.cells B.slots ∧ PostX ⟨T.setVm vm₁, locs, cells, slots⟩ argsL.toArray q B ∧
      Steps p.tables e below (T.setTop g) ((B.U.setTop { g with stack := rest }).pushFrame (.throwing q))) := by
  obtain ⟨mk, methM, cM, hnamed, hmethM, -, -, -, -, -, -, hsigM⟩ := Cond.codeWith_spec hcode
  have hstatic : methM.isStatic = true := Cond.static_spec hnamed hmethM hstat
  obtain ⟨kP, hkP, -⟩ := className_of_methodNamed hnamed
  have hinitP : kP.init = .initialized := Cond.initialized_spec (findClass_of_methodNamed hnamed) hkP hinit
  obtain ⟨vm₁, X₁, hstep₁⟩ := X.invokestatic hexec hown hlink hnamed hmethM hstatic hkP hinitP hy (g := g) hg (argsL := argsL) (rest := rest) (hlen _ hsigM) hstack hdg
  rcases hK m meth c ⟨T.setVm vm₁, locs, cells, slots⟩ { g with stack := rest } (.invokestatic index) mk argsL.toArray X₁ hg hsize hdg hW (X₁.named hnamed) (hpre vm₁ X₁.warmed) with ⟨v, B, X', hpost, hsteps⟩ | ⟨q, B, X', hpost, hsteps⟩
  · exact Or.inl ⟨v, vm₁, B, X₁.warmed, X', hpost, fun target h => hstep₁ _ fun acts => by rw [doInvoke_state]; exact hsteps.trans h⟩
  · exact Or.inr ⟨q, vm₁, B, X₁.warmed, X', hpost, hstep₁ _ fun acts => by rw [doInvoke_state]; exact hsteps⟩
theorem vx_callVW (X : Stand p l e R s m args below meth c T locs cells slots) (hexec : p.tables.exec = Jvm.exec) {own C : String} {index : Nat} {y : MethodName} {bytes : ByteArray} {maxL : Nat} {ret : Option FieldType} {hh : List (Nat × Nat × Nat × Nat)}
    (hown : s.vm.findClass own = some m.cls) (hlink : (Cond.methodLink own index y).before args s = true) (hinst : (Cond.instanceMethod y).before args s = true) (hsel : (Cond.selects C y y).before args s = true)
    (hcode : (Cond.codeWith y bytes maxL ret hh).before args s = true) (hy : y.cls ≠ "java/lang/invoke/MethodHandle" ∧ y.cls ≠ "java/lang/invoke/VarHandle")
    {W9 : Nat} {Pre : Pt → Array Value → Prop} {Post : Pt → Array Value → Option Value → Pt → Prop} (hK : Back l R p e below s args y 3 W9 Pre Post)
    {b : Addr} {cellB : Cell} (hcell : T.heap[b]? = some cellB) (hobj : cellB.vm.isStatics = false) (hcls : s.vm.findClass C = some cellB.cls)
    {g : JFrame} (hg : g.method = m) (hsize : g.locals.size = c.maxLocals) {argsL rest : List Value} (hlen : ∀ sig, parseMethodDescriptor y.desc = some sig → argsL.length = sig.parameters.length)
    (hstack : g.stack = argsL.reverse ++ .ref b :: rest) (hW : 2 * g.monitorRoom + (rest.map fun v => v.category).sum ≤ W9) (hdg : decode c.code g.pc = .ok (.invokevirtual index, 3))
    (hpre : ∀ vm₁, s.WarmedH vm₁ → Pre ⟨T.setVm vm₁, locs, cells, slots⟩ (Value.ref b :: argsL).toArray) :
    ∃ (v : Option Value) (vm₁ : Vm) (B : Pt), s.WarmedH vm₁ ∧ Stand p l e R s m args below meth c B.U B.locs B.cells B.slots ∧ Post ⟨T.setVm vm₁, locs, cells, slots⟩ (Value.ref b :: argsL).toArray v B ∧
      ∀ target, Steps p.tables e below (B.U.setTop { g with pc := g.pc + 3, stack := v.toList ++ rest }) target → Steps p.tables e below (T.setTop g) target := by
  obtain ⟨mk, methM, hnamed, hmethM, hstM, habM⟩ := Cond.instanceMethod_spec hinst
  obtain ⟨m8, methM', cM, hn8, hmethM', -, -, -, -, -, -, hsigM⟩ := Cond.codeWith_spec hcode
  cases Option.some.inj (hn8.symm.trans hnamed)
  cases hmethM.symm.trans hmethM'
  obtain ⟨c2, r2, m2, q1, q2, q3, q4, kP, hkP, hkPi⟩ := Cond.selects_spec hsel
  cases hcls.symm.trans q1
  cases (State.methodFound?_of_named hnamed hy).symm.trans q2
  cases hnamed.symm.trans q3
  have hselP : selectMethod e.platform s.vm cellB.cls mk = .method mk := by rw [Launch.admits_selectMethod X.admits]; exact q4
  obtain ⟨vm₁, X₁, hstep₁⟩ := X.invokevirtual hexec hown hlink hnamed hmethM hstM hkP hkPi hy (a := b) (cell := cellB) hcell
    (fun z h => by rw [h] at hobj; cases hobj) hselP hmethM habM hkP hkPi (g := g) hg (argsL := argsL) (rest := rest) (hlen _ hsigM) hstack hdg
  obtain ⟨v, B, X', hpost, hsteps⟩ := hK m meth c ⟨T.setVm vm₁, locs, cells, slots⟩ { g with stack := rest } (.invokevirtual index) mk (Value.ref b :: argsL).toArray X₁ hg hsize hdg hW (X₁.named hnamed) (hpre vm₁ X₁.warmed)
  exact ⟨v, vm₁, B, X₁.warmed, X', hpost, fun target h => hstep₁ _ fun acts => by rw [doInvoke_state]; exact hsteps.trans h⟩
abbrev vx_CVW (R : Room) (s : State) (args : Array Value) (own C : String) (index : Nat) (y : MethodName) (bytes : ByteArray) (maxL : Nat) (ret : Option FieldType) (hh : List (Nat × Nat × Nat × Nat)) (ws : List Cond) (rm : Room) (mc ms n : Nat) : Prop :=
  (rm.cells = mc ∧ rm.slots = ms ∧ rm.frames + 1 ≤ R.frames ∧ 8 + (maxL + 11) + rm.locals ≤ R.locals ∧ (∀ w ∈ ws, ∀ (a' : Array Value) (U : State), s.WarmedH U.vm → w.before a' U = true) ∧ Cond.codeWith y bytes maxL ret hh ∈ ws) ∧
  (Cond.codeWith y bytes maxL ret hh).before args s = true ∧ (Cond.initialized y.cls).before args s = true ∧ (y.cls ≠ "java/lang/invoke/MethodHandle" ∧ y.cls ≠ "java/lang/invoke/VarHandle") ∧
  (∀ sig, parseMethodDescriptor y.desc = some sig → n = sig.parameters.length) ∧ (Cond.methodLink own index y).before args s = true ∧ (Cond.instanceMethod y).before args s = true ∧ (Cond.selects C y y).before args s = true
theorem vx_cwVW {own C : String} {index maxL mc ms : Nat} {y : MethodName} {bytes : ByteArray} {ret : Option FieldType} {hh : List (Nat × Nat × Nat × Nat)} {Ts ws ws' : List Cond} {rm : Room} (n : Nat) (ht : ∀ w ∈ Ts, w.before args s = true) (hT : GoodIn Ts (wsV own index C y ws)) (hw : ws = Cond.codeWith y bytes maxL ret hh :: ws') (hrc : rm.cells = mc) (hrs : rm.slots = ms)
    (hd : y.cls = C ∧ y.cls ≠ "java/lang/invoke/MethodHandle" ∧ y.cls ≠ "java/lang/invoke/VarHandle" ∧ (parseMethodDescriptor y.desc).map (fun d => d.parameters.length) = some n) (hR : rm.frames + 1 ≤ R.frames ∧ 8 + (maxL + 11) + rm.locals ≤ R.locals) :
    vx_CVW R s args own C index y bytes maxL ret hh ws rm mc ms n := by
  obtain ⟨hC, hd⟩ := hd
  subst hC
  have ok : ∀ w ∈ wsV own index y.cls y ws, w.before args s = true := fun w h => ht w (hT w h).1
  have hG : GoodIn Ts ws := fun w h => hT w (by unfold wsV; exact List.mem_append_right _ h)
  have hc : Cond.codeWith y bytes maxL ret hh ∈ ws := by rw [hw]; exact List.mem_cons_self
  refine ⟨⟨hrc, hrs, hR.1, hR.2, pay_in ht hG, hc⟩, ht _ (hG _ hc).1, ok _ (by simp [wsV]), ⟨hd.1, hd.2.1⟩, fun sig h => ?_, ok _ (by simp [wsV]), ok _ (by simp [wsV]), ok _ (by simp [wsV])⟩
  have h2 := hd.2.2
  rw [h] at h2
  exact (Option.some.inj h2).symm
theorem vx_runVW {y : MethodName} {bytes cc : ByteArray} {maxL nL mc ms n index : Nat} {ret : Option FieldType} {hh : List (Nat × Nat × Nat × Nat)} {ws : List Cond} {rm : Room} {Pc : Array Value → State → Prop} {Qc : Array Value → State → Outcome → State → Prop} {free : Addr → Prop} {Ts : List Cond} {own C : String} {b : Addr} {As rest : List Value} {g : JFrame}
    (S : CallFix p m c cc nL s args Ts own) (hM : Met l y ws rm Pc Qc mc ms free) (cw : vx_CVW R s args own C index y bytes maxL ret hh ws rm mc ms n) (hp : PreV s H C b Pc As)
    (hg : g.method = m) (hn : As.length = n) (hsize : g.locals.size = nL) (hstack : g.stack = As.reverse ++ .ref b :: rest) (hW : 2 * g.monitorRoom + (rest.map fun v => v.category).sum ≤ 8) (hdg : decode cc g.pc = .ok (.invokevirtual index, 3)) (hf : cells + mc ≤ R.cells ∧ slots + ms ≤ R.slots) :
    va_Run p l e R s m args below meth c H locs cells slots mc ms g rest (Qc (Value.ref b :: As).toArray) free := by
  obtain ⟨⟨hrc, hrs, hfr, hlo, hws, hcw⟩, hcode, hini, hy, hlen, hl, hin, hse⟩ := cw
  have hK : Back l R p e below s args y 3 8 (PreOf R mc ms Pc) (PostOf Qc mc ms free) := va_backW (hh := hh) (bytes := bytes) (maxL := maxL) (ret := ret) hM hp.1 hrc hrs hfr hlo hws hcw (fun a' U hW => word_at hW (Or.inl (by first | rfl | simp [Cond.onTables, Cond.keeps, Cond.steady])) hini)
  obtain ⟨hx, hb, hml, ho, -⟩ := S
  obtain ⟨-, ⟨cellB, hcB, hoB, hclB⟩, hPc⟩ := hp
  intro T hT X
  obtain ⟨v, vm₁, ⟨U', l2, c2, s2⟩, hW₁, X', ⟨g', mk, t, L, e1, e2, hq, h1, hL, h2, h3⟩, st⟩ := vx_callVW X hx (C := C) (hh := hh) (bytes := bytes) (maxL := maxL) (ret := ret) ho hl hin hse hcode hy hK (by rw [hT]; exact hcB) hoB hclB hg (hsize.trans hml.symm) (argsL := As) (rest := rest) (fun sig h => hn.trans (hlen sig h)) hstack hW (by rw [hb]; exact hdg)
    (fun vm₁ hW₁ => ⟨hf.1, hf.2, hPc (T.setVm vm₁) hT hW₁⟩)
  dsimp only [Pt.U, Pt.locs, Pt.cells, Pt.slots] at X' e1 e2 h1 h2 h3 st
  subst h1; subst h2; subst h3
  exact ⟨v, (T.setVm vm₁).calling g' mk (Value.ref b :: As).toArray, t, U', L, hT, X', hL, e1, e2, hq, st⟩
section
variable {y : MethodName} {bytes cc : ByteArray} {maxL nL mc ms n index : Nat} {ret : Option FieldType} {ws : List Cond} {rm : Room} {Pc : Array Value → State → Prop} {Qc : Array Value → State → Outcome → State → Prop} {XC : String → State → State → Prop} {free : Addr → Prop} {Ts : List Cond} {own C : String} {b : Addr} {As rest : List Value} {g : JFrame}
theorem vx_runVX {hh : List (Nat × Nat × Nat × Nat)} (S : CallFix p m c cc nL s args Ts own) (hM : vx_Met l y ws rm Pc Qc XC mc ms free) (cw : vx_CVW R s args own C index y bytes maxL ret hh ws rm mc ms n) (hp : PreV s H C b Pc As)
    (hg : g.method = m) (hn : As.length = n) (hsize : g.locals.size = nL) (hstack : g.stack = As.reverse ++ .ref b :: rest) (hW : 2 * g.monitorRoom + (rest.map fun v => v.category).sum ≤ 8) (hdg : decode cc g.pc = .ok (.invokevirtual index, 3)) (hf : cells + mc ≤ R.cells ∧ slots + ms ≤ R.slots) :
    vx_Run p l e R s m args below meth c H locs cells slots mc ms g rest (Qc (Value.ref b :: As).toArray) XC free := by
  obtain ⟨⟨hrc, hrs, hfr, hlo, hws, hcw⟩, hcode, hini, hy, hlen, hl, hin, hse⟩ := cw
  have hK : vx_Back l R p e below s args y 3 8 (PreOf R mc ms Pc) (PostOf Qc mc ms free) (vx_Post XC mc ms free) := vx_backW (hh := hh) (bytes := bytes) (maxL := maxL) (ret := ret) hM hp.1 hrc hrs hfr hlo hws hcw (fun a' U hW => word_at hW (Or.inl (by first | rfl | simp [Cond.onTables, Cond.keeps, Cond.steady])) hini)
  obtain ⟨hx, hb, hml, ho, -⟩ := S
  obtain ⟨-, ⟨cellB, hcB, hoB, hclB⟩, hPc⟩ := hp
  intro T hT X
  rcases vx_callVX X hx (C := C) (hh := hh) (bytes := bytes) (maxL := maxL) (ret := ret) ho hl hin hse hcode hy hK (by rw [hT]; exact hcB) hoB hclB hg (hsize.trans hml.symm) (argsL := As) (rest := rest) (fun sig h => hn.trans (hlen sig h)) hstack hW (by rw [hb]; exact hdg)
    (fun vm₁ hW₁ => ⟨hf.1, hf.2, hPc (T.setVm vm₁) hT hW₁⟩) with ⟨v, vm₁, ⟨U', l2, c2, s2⟩, hW₁, X', ⟨g', mk, t, L, e1, e2, hq, h1, hL, h2, h3⟩, st⟩ | ⟨q, vm₁, ⟨U', l2, c2, s2⟩, hW₁, X', ⟨g', mk, t, L, E, ce, e1, e2, hq, hce, hcv, hcl, h1, hL, h2, h3⟩, st⟩
  · dsimp only [Pt.U, Pt.locs, Pt.cells, Pt.slots] at X' e1 e2 h1 h2 h3 st
    subst h1; subst h2; subst h3
    exact Or.inl ⟨v, (T.setVm vm₁).calling g' mk (Value.ref b :: As).toArray, t, U', L, hT, X', hL, e1, e2, hq, st⟩
  · dsimp only [Pt.U, Pt.locs, Pt.cells, Pt.slots] at X' e1 e2 h1 h2 h3 st hcl
    subst h1; subst h2; subst h3
    exact Or.inr ⟨q, (T.setVm vm₁).calling g' mk (Value.ref b :: As).toArray, t, U', L, E, ce, hT, X', hL, e1, e2, hq, hce, hcv, vx_cls hW₁ hcl, st⟩
theorem vx_runSX {hh : List (Nat × Nat × Nat × Nat)} (S : CallFix p m c cc nL s args Ts own) (hM : vx_Met l y ws rm Pc Qc XC mc ms free) (cw : vx_CSW R s args own index y bytes maxL ret hh ws rm mc ms n) (hp : PreS s H Pc As)
    (hg : g.method = m) (hn : As.length = n) (hsize : g.locals.size = nL) (hstack : g.stack = As.reverse ++ rest) (hW : 2 * g.monitorRoom + (rest.map fun v => v.category).sum ≤ 8) (hdg : decode cc g.pc = .ok (.invokestatic index, 3)) (hf : cells + mc ≤ R.cells ∧ slots + ms ≤ R.slots) :
    vx_Run p l e R s m args below meth c H locs cells slots mc ms g rest (Qc As.toArray) XC free := by
  obtain ⟨⟨hrc, hrs, hfr, hlo, hws, hcw⟩, hcode, hini, hy, hlen, hl, hstt⟩ := cw
  have hK : vx_Back l R p e below s args y 3 8 (PreOf R mc ms Pc) (PostOf Qc mc ms free) (vx_Post XC mc ms free) := vx_backW (hh := hh) (bytes := bytes) (maxL := maxL) (ret := ret) hM hp.1 hrc hrs hfr hlo hws hcw (fun a' U hW => word_at hW (Or.inl (by first | rfl | simp [Cond.onTables, Cond.keeps, Cond.steady])) hini)
  obtain ⟨hx, hb, hml, ho, -⟩ := S
  intro T hT X
  rcases vx_callSX X hx (hh := hh) (bytes := bytes) (maxL := maxL) (ret := ret) ho hl hstt hini hcode hy hK hg (hsize.trans hml.symm) (argsL := As) (rest := rest) (fun sig h => hn.trans (hlen sig h)) hstack hW (by rw [hb]; exact hdg)
    (fun vm₁ hW₁ => ⟨hf.1, hf.2, hp.2 (T.setVm vm₁) hT hW₁⟩) with ⟨v, vm₁, ⟨U', l2, c2, s2⟩, hW₁, X', ⟨g', mk, t, L, e1, e2, hq, h1, hL, h2, h3⟩, st⟩ | ⟨q, vm₁, ⟨U', l2, c2, s2⟩, hW₁, X', ⟨g', mk, t, L, E, ce, e1, e2, hq, hce, hcv, hcl, h1, hL, h2, h3⟩, st⟩
  · dsimp only [Pt.U, Pt.locs, Pt.cells, Pt.slots] at X' e1 e2 h1 h2 h3 st
    subst h1; subst h2; subst h3
    exact Or.inl ⟨v, (T.setVm vm₁).calling g' mk As.toArray, t, U', L, hT, X', hL, e1, e2, hq, st⟩
  · dsimp only [Pt.U, Pt.locs, Pt.cells, Pt.slots] at X' e1 e2 h1 h2 h3 st hcl
    subst h1; subst h2; subst h3
    exact Or.inr ⟨q, (T.setVm vm₁).calling g' mk As.toArray, t, U', L, E, ce, hT, X', hL, e1, e2, hq, hce, hcv, vx_cls hW₁ hcl, st⟩
end
end VXH
theorem vx_ofWH {l : Launch} {y : MethodName} {ws ws' : List Cond} {rm : Room} {Pc : Array Value → State → Prop} {Qc : Array Value → State → Outcome → State → Prop} {XC : String → State → State → Prop} {mc ms : Nat} {free : Addr → Prop} {cc : ByteArray} {maxL : Nat} {ret : Option FieldType} {hh : List (Nat × Nat × Nat × Nat)}
    (hy : plainName y.cls = true) (hw : ws = Cond.codeWith y cc maxL ret hh :: ws')
    (body : ∀ p e s m args below meth c s₁, BodyLoose p l y (headSpec ws rm) cc maxL ret e s m args below meth c s₁ → c.maxLocals = maxL → Pc args s →
      W p l e (headSpec ws rm).room s m args below meth c s.heap [] 0 0 (vx_MQ below Qc XC args s mc ms free) (entryFrame m args maxL)) : vx_Met l y ws rm Pc Qc XC mc ms free := by
  refine MetFree.of_bodyS (code := cc) (maxLocals := maxL) (ret := ret) hy ?_ ?_
  · intro args s m h hn
    obtain ⟨m9, meth, c, hn9, h1, h2, h3, h4, -, h5, h6, -⟩ := Cond.codeWith_spec (atoms_spec (ws := ws) h _ (by rw [hw]; exact List.mem_cons_self))
    cases hn.symm.trans hn9
    exact ⟨meth, c, h1, h2, h3, h4, h5, h6⟩
  · intro p e s m args below meth c s₁ B hml hP _
    have hh0 : s₁.heap = s.heap := by rw [B.state]; rfl
    obtain ⟨t, a1, o, b1, b2, b3⟩ := body p e s m args below meth c s₁ B hml hP s₁ hh0 (Stand.of_body B)
    exact ⟨t, o, a1, b1, b2, b3⟩
/-! ===== END ===== -/
end
section
/-! ===== BEGIN printed: names, fields, word lists, decode rows ===== -/
def RX0 : String := "Commutator$Decoder"
def TX0 : u_T := fun k => match k with
  | 0 => ("Commutator$Decoder", "usedFrames", "I", false)
  | 1 => ("Commutator$Decoder", "lostFrames", "I", false)
  | 2 => ("Commutator$Decoder", "repeatedFrames", "I", false)
  | 3 => ("Commutator$Decoder", "latestCounter", "I", false)
  | _ => ("Commutator$Decoder", "latestNumber", "I", false)
def tyX0 : Nat → FieldType := fun k => match k with
  | 0 => .int
  | 1 => .int
  | 2 => .int
  | 3 => .int
  | _ => .int
abbrev wsX00 : List Cond := u_ws RX0 TX0 5
theorem nmX0 : ∀ a, a < 5 → ∀ b, b < 5 → a ≠ b → (TX0 a).2.1 ≠ (TX0 b).2.1 := by decide +kernel
theorem tyX0_ok : ∀ k, k < 5 → parseFieldDescriptor (TX0 k).2.2.1 = some (tyX0 k) := by decide +kernel
abbrev cX0_init : ByteArray := prog_2_method_1_code
def yX0_init : MethodName := ⟨RX0, "<init>", "()V"⟩
abbrev cX0_decode : ByteArray := prog_2_method_2_code
def yX0_decode : MethodName := ⟨RX0, "decode", "(JLCommutator$PointTable;)V"⟩
abbrev cX0_noteLost : ByteArray := prog_2_method_3_code
def yX0_noteLost : MethodName := ⟨RX0, "noteLost", "(ILCommutator$PointTable;)V"⟩
abbrev cX0_giveSamples : ByteArray := prog_2_method_4_code
def yX0_giveSamples : MethodName := ⟨RX0, "giveSamples", "(JLCommutator$PointTable;)V"⟩
def RX1 : String := "Commutator$Derived"
def TX1 : u_T := fun k => match k with
  | 0 => ("Commutator$Derived", "defined", "Z", false)
  | 1 => ("Commutator$Derived", "operation", "I", false)
  | 2 => ("Commutator$Derived", "first", "I", false)
  | 3 => ("Commutator$Derived", "second", "I", false)
  | _ => ("Commutator$Derived", "result", "LCommutator$Reading;", true)
def tyX1 : Nat → FieldType := fun k => match k with
  | 0 => .boolean
  | 1 => .int
  | 2 => .int
  | 3 => .int
  | _ => .object "Commutator$Reading"
abbrev wsX10 : List Cond := u_ws RX1 TX1 5
theorem nmX1 : ∀ a, a < 5 → ∀ b, b < 5 → a ≠ b → (TX1 a).2.1 ≠ (TX1 b).2.1 := by decide +kernel
theorem tyX1_ok : ∀ k, k < 5 → parseFieldDescriptor (TX1 k).2.2.1 = some (tyX1 k) := by decide +kernel
abbrev cX1_init : ByteArray := prog_3_method_1_code
def yX1_init : MethodName := ⟨RX1, "<init>", "()V"⟩
abbrev cX1_combine : ByteArray := prog_3_method_2_code
def yX1_combine : MethodName := ⟨RX1, "combine", "(LCommutator$Reading;LCommutator$Reading;)V"⟩
abbrev cX1_operate : ByteArray := prog_3_method_3_code
def yX1_operate : MethodName := ⟨RX1, "operate", "(JJ)J"⟩
def RX2 : String := "Commutator$DerivedTable"
def TX2 : u_T := fun k => match k with
  | _ => ("Commutator$DerivedTable", "rows", "[LCommutator$Derived;", true)
def tyX2 : Nat → FieldType := fun k => match k with
  | _ => .array (.object "Commutator$Derived")
abbrev wsX20 : List Cond := u_ws RX2 TX2 1
theorem nmX2 : ∀ a, a < 1 → ∀ b, b < 1 → a ≠ b → (TX2 a).2.1 ≠ (TX2 b).2.1 := by decide +kernel
theorem tyX2_ok : ∀ k, k < 1 → parseFieldDescriptor (TX2 k).2.2.1 = some (tyX2 k) := by decide +kernel
abbrev cX2_init : ByteArray := prog_4_method_1_code
def yX2_init : MethodName := ⟨RX2, "<init>", "()V"⟩
abbrev cX2_define : ByteArray := prog_4_method_2_code
def yX2_define : MethodName := ⟨RX2, "define", "(IIII)V"⟩
abbrev cX2_wouldNeedItself : ByteArray := prog_4_method_3_code
def yX2_wouldNeedItself : MethodName := ⟨RX2, "wouldNeedItself", "(III)Z"⟩
abbrev cX2_needsOf : ByteArray := prog_4_method_4_code
def yX2_needsOf : MethodName := ⟨RX2, "needsOf", "(I)I"⟩
abbrev cX2_operandMask : ByteArray := prog_4_method_5_code
def yX2_operandMask : MethodName := ⟨RX2, "operandMask", "(I)I"⟩
abbrev cX2_compute : ByteArray := prog_4_method_6_code
def yX2_compute : MethodName := ⟨RX2, "compute", "(ILCommutator$PointTable;)LCommutator$Reading;"⟩
abbrev cX2_computeOne : ByteArray := prog_4_method_7_code
def yX2_computeOne : MethodName := ⟨RX2, "computeOne", "(LCommutator$Derived;LCommutator$PointTable;)V"⟩
abbrev cX2_operand : ByteArray := prog_4_method_8_code
def yX2_operand : MethodName := ⟨RX2, "operand", "(ILCommutator$PointTable;)LCommutator$Reading;"⟩
abbrev cX2_at : ByteArray := prog_4_method_9_code
def yX2_at : MethodName := ⟨RX2, "at", "(I)LCommutator$Derived;"⟩
def RX3 : String := "Commutator$Line"
def TX3 : u_T := fun k => match k with
  | 0 => ("Commutator$Line", "bits", "[I", true)
  | 1 => ("Commutator$Line", "head", "I", false)
  | _ => ("Commutator$Line", "end", "I", false)
def tyX3 : Nat → FieldType := fun k => match k with
  | 0 => .array .int
  | 1 => .int
  | _ => .int
abbrev wsX30 : List Cond := u_ws RX3 TX3 3
theorem nmX3 : ∀ a, a < 3 → ∀ b, b < 3 → a ≠ b → (TX3 a).2.1 ≠ (TX3 b).2.1 := by decide +kernel
theorem tyX3_ok : ∀ k, k < 3 → parseFieldDescriptor (TX3 k).2.2.1 = some (tyX3 k) := by decide +kernel
abbrev cX3_init : ByteArray := prog_5_method_1_code
def yX3_init : MethodName := ⟨RX3, "<init>", "()V"⟩
abbrev cX3_length : ByteArray := prog_5_method_2_code
def yX3_length : MethodName := ⟨RX3, "length", "()I"⟩
abbrev cX3_holds : ByteArray := prog_5_method_3_code
def yX3_holds : MethodName := ⟨RX3, "holds", "(II)Z"⟩
abbrev cX3_append : ByteArray := prog_5_method_4_code
def yX3_append : MethodName := ⟨RX3, "append", "(I)V"⟩
abbrev cX3_look : ByteArray := prog_5_method_5_code
def yX3_look : MethodName := ⟨RX3, "look", "(I)I"⟩
abbrev cX3_turnOver : ByteArray := prog_5_method_6_code
def yX3_turnOver : MethodName := ⟨RX3, "turnOver", "(I)I"⟩
abbrev cX3_remove : ByteArray := prog_5_method_7_code
def yX3_remove : MethodName := ⟨RX3, "remove", "(II)V"⟩
abbrev cX3_takeFirst : ByteArray := prog_5_method_8_code
def yX3_takeFirst : MethodName := ⟨RX3, "takeFirst", "()I"⟩
def RX4 : String := "Commutator$Point"
def TX4 : u_T := fun k => match k with
  | 0 => ("Commutator$Point", "width", "I", true)
  | 1 => ("Commutator$Point", "convention", "I", true)
  | 2 => ("Commutator$Point", "period", "I", true)
  | 3 => ("Commutator$Point", "twice", "Z", true)
  | 4 => ("Commutator$Point", "phase", "I", true)
  | 5 => ("Commutator$Point", "offset", "I", true)
  | 6 => ("Commutator$Point", "present", "I", false)
  | 7 => ("Commutator$Point", "latest", "LCommutator$Reading;", true)
  | 8 => ("Commutator$Point", "sampleCount", "I", false)
  | _ => ("Commutator$Point", "missingCount", "I", false)
def tyX4 : Nat → FieldType := fun k => match k with
  | 0 => .int
  | 1 => .int
  | 2 => .int
  | 3 => .boolean
  | 4 => .int
  | 5 => .int
  | 6 => .int
  | 7 => .object "Commutator$Reading"
  | 8 => .int
  | _ => .int
abbrev wsX40 : List Cond := u_ws RX4 TX4 10
theorem nmX4 : ∀ a, a < 10 → ∀ b, b < 10 → a ≠ b → (TX4 a).2.1 ≠ (TX4 b).2.1 := by decide +kernel
theorem tyX4_ok : ∀ k, k < 10 → parseFieldDescriptor (TX4 k).2.2.1 = some (tyX4 k) := by decide +kernel
abbrev cX4_init : ByteArray := prog_6_method_1_code
def yX4_init : MethodName := ⟨RX4, "<init>", "(IIIZII)V"⟩
abbrev cX4_lowest : ByteArray := prog_6_method_2_code
def yX4_lowest : MethodName := ⟨RX4, "lowest", "()I"⟩
abbrev cX4_highest : ByteArray := prog_6_method_3_code
def yX4_highest : MethodName := ⟨RX4, "highest", "()I"⟩
abbrev cX4_encode : ByteArray := prog_6_method_4_code
def yX4_encode : MethodName := ⟨RX4, "encode", "(I)I"⟩
abbrev cX4_decode : ByteArray := prog_6_method_5_code
def yX4_decode : MethodName := ⟨RX4, "decode", "(I)I"⟩
abbrev cX4_signWeight : ByteArray := prog_6_method_6_code
def yX4_signWeight : MethodName := ⟨RX4, "signWeight", "()I"⟩
abbrev cX4_isSentIn : ByteArray := prog_6_method_7_code
def yX4_isSentIn : MethodName := ⟨RX4, "isSentIn", "(I)Z"⟩
abbrev cX4_samplesInFrame : ByteArray := prog_6_method_8_code
def yX4_samplesInFrame : MethodName := ⟨RX4, "samplesInFrame", "()I"⟩
abbrev cX4_firstBit : ByteArray := prog_6_method_9_code
def yX4_firstBit : MethodName := ⟨RX4, "firstBit", "(I)I"⟩
abbrev cX4_shift : ByteArray := prog_6_method_10_code
def yX4_shift : MethodName := ⟨RX4, "shift", "(I)I"⟩
abbrev cX4_readFrom : ByteArray := prog_6_method_11_code
def yX4_readFrom : MethodName := ⟨RX4, "readFrom", "(JI)V"⟩
abbrev cX4_noteMissing : ByteArray := prog_6_method_12_code
def yX4_noteMissing : MethodName := ⟨RX4, "noteMissing", "()V"⟩
def RX5 : String := "Commutator$PointTable"
def TX5 : u_T := fun k => match k with
  | 0 => ("Commutator$PointTable", "rows", "[LCommutator$Point;", true)
  | 1 => ("Commutator$PointTable", "count", "I", false)
  | _ => ("Commutator$PointTable", "usedBits", "[J", true)
def tyX5 : Nat → FieldType := fun k => match k with
  | 0 => .array (.object "Commutator$Point")
  | 1 => .int
  | _ => .array .long
abbrev wsX50 : List Cond := u_ws RX5 TX5 3
theorem nmX5 : ∀ a, a < 3 → ∀ b, b < 3 → a ≠ b → (TX5 a).2.1 ≠ (TX5 b).2.1 := by decide +kernel
theorem tyX5_ok : ∀ k, k < 3 → parseFieldDescriptor (TX5 k).2.2.1 = some (tyX5 k) := by decide +kernel
abbrev cX5_init : ByteArray := prog_7_method_1_code
def yX5_init : MethodName := ⟨RX5, "<init>", "()V"⟩
abbrev cX5_at : ByteArray := prog_7_method_2_code
def yX5_at : MethodName := ⟨RX5, "at", "(I)LCommutator$Point;"⟩
abbrev cX5_add : ByteArray := prog_7_method_3_code
def yX5_add : MethodName := ⟨RX5, "add", "(IIIZ)Z"⟩
abbrev cX5_bitsAt : ByteArray := prog_7_method_4_code
def yX5_bitsAt : MethodName := ⟨RX5, "bitsAt", "(IIZ)J"⟩
abbrev cX5_isFree : ByteArray := prog_7_method_5_code
def yX5_isFree : MethodName := ⟨RX5, "isFree", "(JII)Z"⟩
abbrev cX5_use : ByteArray := prog_7_method_6_code
def yX5_use : MethodName := ⟨RX5, "use", "(JII)V"⟩
abbrev cX5_spareBits : ByteArray := prog_7_method_7_code
def yX5_spareBits : MethodName := ⟨RX5, "spareBits", "()I"⟩
def RX6 : String := "Commutator$Reading"
def TX6 : u_T := fun k => match k with
  | 0 => ("Commutator$Reading", "known", "Z", false)
  | 1 => ("Commutator$Reading", "amount", "I", false)
  | _ => ("Commutator$Reading", "moment", "I", false)
def tyX6 : Nat → FieldType := fun k => match k with
  | 0 => .boolean
  | 1 => .int
  | _ => .int
abbrev wsX60 : List Cond := u_ws RX6 TX6 3
theorem nmX6 : ∀ a, a < 3 → ∀ b, b < 3 → a ≠ b → (TX6 a).2.1 ≠ (TX6 b).2.1 := by decide +kernel
theorem tyX6_ok : ∀ k, k < 3 → parseFieldDescriptor (TX6 k).2.2.1 = some (tyX6 k) := by decide +kernel
abbrev cX6_init : ByteArray := prog_8_method_1_code
def yX6_init : MethodName := ⟨RX6, "<init>", "()V"⟩
abbrev cX6_set : ByteArray := prog_8_method_2_code
def yX6_set : MethodName := ⟨RX6, "set", "(II)V"⟩
abbrev cX6_forget : ByteArray := prog_8_method_3_code
def yX6_forget : MethodName := ⟨RX6, "forget", "()V"⟩
def RX7 : String := "Commutator$Sender"
def TX7 : u_T := fun k => match k with
  | 0 => ("Commutator$Sender", "wordsSent", "I", false)
  | _ => ("Commutator$Sender", "frame", "J", false)
def tyX7 : Nat → FieldType := fun k => match k with
  | 0 => .int
  | _ => .long
abbrev wsX70 : List Cond := u_ws RX7 TX7 2
theorem nmX7 : ∀ a, a < 2 → ∀ b, b < 2 → a ≠ b → (TX7 a).2.1 ≠ (TX7 b).2.1 := by decide +kernel
theorem tyX7_ok : ∀ k, k < 2 → parseFieldDescriptor (TX7 k).2.2.1 = some (tyX7 k) := by decide +kernel
abbrev cX7_init : ByteArray := prog_9_method_1_code
def yX7_init : MethodName := ⟨RX7, "<init>", "()V"⟩
abbrev cX7_sendWord : ByteArray := prog_9_method_2_code
def yX7_sendWord : MethodName := ⟨RX7, "sendWord", "(LCommutator$PointTable;LCommutator$Line;)V"⟩
abbrev cX7_packSamples : ByteArray := prog_9_method_3_code
def yX7_packSamples : MethodName := ⟨RX7, "packSamples", "(LCommutator$PointTable;II)V"⟩
def RX8 : String := "Commutator$Synchroniser"
def TX8 : u_T := fun k => match k with
  | 0 => ("Commutator$Synchroniser", "mode", "I", false)
  | 1 => ("Commutator$Synchroniser", "takenBits", "I", false)
  | 2 => ("Commutator$Synchroniser", "latest", "J", false)
  | 3 => ("Commutator$Synchroniser", "bitsOfFrame", "I", false)
  | 4 => ("Commutator$Synchroniser", "matchCount", "I", false)
  | 5 => ("Commutator$Synchroniser", "missCount", "I", false)
  | _ => ("Commutator$Synchroniser", "syncWords", "[I", true)
def tyX8 : Nat → FieldType := fun k => match k with
  | 0 => .int
  | 1 => .int
  | 2 => .long
  | 3 => .int
  | 4 => .int
  | 5 => .int
  | _ => .array .int
abbrev wsX80 : List Cond := u_ws RX8 TX8 7
theorem nmX8 : ∀ a, a < 7 → ∀ b, b < 7 → a ≠ b → (TX8 a).2.1 ≠ (TX8 b).2.1 := by decide +kernel
theorem tyX8_ok : ∀ k, k < 7 → parseFieldDescriptor (TX8 k).2.2.1 = some (tyX8 k) := by decide +kernel
abbrev cX8_init : ByteArray := prog_10_method_1_code
def yX8_init : MethodName := ⟨RX8, "<init>", "()V"⟩
abbrev cX8_take : ByteArray := prog_10_method_2_code
def yX8_take : MethodName := ⟨RX8, "take", "(I)Z"⟩
abbrev cX8_syncWordsAt : ByteArray := prog_10_method_3_code
def yX8_syncWordsAt : MethodName := ⟨RX8, "syncWordsAt", "(I)I"⟩
abbrev cX8_latestWord : ByteArray := prog_10_method_4_code
def yX8_latestWord : MethodName := ⟨RX8, "latestWord", "()I"⟩
abbrev cX8_isSyncWord : ByteArray := prog_10_method_5_code
def yX8_isSyncWord : MethodName := ⟨RX8, "isSyncWord", "()Z"⟩
abbrev cX8_search : ByteArray := prog_10_method_6_code
def yX8_search : MethodName := ⟨RX8, "search", "()V"⟩
abbrev cX8_judgeSyncWord : ByteArray := prog_10_method_7_code
def yX8_judgeSyncWord : MethodName := ⟨RX8, "judgeSyncWord", "()V"⟩
abbrev cX8_check : ByteArray := prog_10_method_8_code
def yX8_check : MethodName := ⟨RX8, "check", "()V"⟩
abbrev cX8_keepLock : ByteArray := prog_10_method_9_code
def yX8_keepLock : MethodName := ⟨RX8, "keepLock", "()V"⟩
def RX9 : String := "Commutator"
def TX9 : u_T := fun k => match k with
  | 0 => ("Commutator", "table", "LCommutator$PointTable;", true)
  | 1 => ("Commutator", "line", "LCommutator$Line;", true)
  | 2 => ("Commutator", "sender", "LCommutator$Sender;", true)
  | 3 => ("Commutator", "synchroniser", "LCommutator$Synchroniser;", true)
  | 4 => ("Commutator", "decoder", "LCommutator$Decoder;", true)
  | _ => ("Commutator", "derivedTable", "LCommutator$DerivedTable;", true)
def tyX9 : Nat → FieldType := fun k => match k with
  | 0 => .object "Commutator$PointTable"
  | 1 => .object "Commutator$Line"
  | 2 => .object "Commutator$Sender"
  | 3 => .object "Commutator$Synchroniser"
  | 4 => .object "Commutator$Decoder"
  | _ => .object "Commutator$DerivedTable"
abbrev wsX90 : List Cond := u_ws RX9 TX9 6
theorem nmX9 : ∀ a, a < 6 → ∀ b, b < 6 → a ≠ b → (TX9 a).2.1 ≠ (TX9 b).2.1 := by decide +kernel
theorem tyX9_ok : ∀ k, k < 6 → parseFieldDescriptor (TX9 k).2.2.1 = some (tyX9 k) := by decide +kernel
abbrev cX9_init : ByteArray := prog_1_method_1_code
def yX9_init : MethodName := ⟨RX9, "<init>", "()V"⟩
abbrev cX9_addPoint : ByteArray := prog_1_method_2_code
def yX9_addPoint : MethodName := ⟨RX9, "addPoint", "(IIIZ)I"⟩
abbrev cX9_points : ByteArray := prog_1_method_3_code
def yX9_points : MethodName := ⟨RX9, "points", "()I"⟩
abbrev cX9_place : ByteArray := prog_1_method_4_code
def yX9_place : MethodName := ⟨RX9, "place", "(I)I"⟩
abbrev cX9_spare : ByteArray := prog_1_method_5_code
def yX9_spare : MethodName := ⟨RX9, "spare", "()I"⟩
abbrev cX9_put : ByteArray := prog_1_method_6_code
def yX9_put : MethodName := ⟨RX9, "put", "(II)I"⟩
abbrev cX9_send : ByteArray := prog_1_method_7_code
def yX9_send : MethodName := ⟨RX9, "send", "(I)I"⟩
abbrev cX9_sent : ByteArray := prog_1_method_8_code
def yX9_sent : MethodName := ⟨RX9, "sent", "()I"⟩
abbrev cX9_onLine : ByteArray := prog_1_method_9_code
def yX9_onLine : MethodName := ⟨RX9, "onLine", "()I"⟩
abbrev cX9_bit : ByteArray := prog_1_method_10_code
def yX9_bit : MethodName := ⟨RX9, "bit", "(I)I"⟩
abbrev cX9_flip : ByteArray := prog_1_method_11_code
def yX9_flip : MethodName := ⟨RX9, "flip", "(I)I"⟩
abbrev cX9_cut : ByteArray := prog_1_method_12_code
def yX9_cut : MethodName := ⟨RX9, "cut", "(II)I"⟩
abbrev cX9_receive : ByteArray := prog_1_method_13_code
def yX9_receive : MethodName := ⟨RX9, "receive", "(I)I"⟩
abbrev cX9_state : ByteArray := prog_1_method_14_code
def yX9_state : MethodName := ⟨RX9, "state", "()I"⟩
abbrev cX9_taken : ByteArray := prog_1_method_15_code
def yX9_taken : MethodName := ⟨RX9, "taken", "()I"⟩
abbrev cX9_frames : ByteArray := prog_1_method_16_code
def yX9_frames : MethodName := ⟨RX9, "frames", "()I"⟩
abbrev cX9_lost : ByteArray := prog_1_method_17_code
def yX9_lost : MethodName := ⟨RX9, "lost", "()I"⟩
abbrev cX9_repeats : ByteArray := prog_1_method_18_code
def yX9_repeats : MethodName := ⟨RX9, "repeats", "()I"⟩
abbrev cX9_number : ByteArray := prog_1_method_19_code
def yX9_number : MethodName := ⟨RX9, "number", "()I"⟩
abbrev cX9_value : ByteArray := prog_1_method_20_code
def yX9_value : MethodName := ⟨RX9, "value", "(I)I"⟩
abbrev cX9_time : ByteArray := prog_1_method_21_code
def yX9_time : MethodName := ⟨RX9, "time", "(I)I"⟩
abbrev cX9_samples : ByteArray := prog_1_method_22_code
def yX9_samples : MethodName := ⟨RX9, "samples", "(I)I"⟩
abbrev cX9_missing : ByteArray := prog_1_method_23_code
def yX9_missing : MethodName := ⟨RX9, "missing", "(I)I"⟩
abbrev cX9_derive : ByteArray := prog_1_method_24_code
def yX9_derive : MethodName := ⟨RX9, "derive", "(IIII)V"⟩
abbrev cX9_derivedValue : ByteArray := prog_1_method_25_code
def yX9_derivedValue : MethodName := ⟨RX9, "derivedValue", "(I)I"⟩
abbrev cX9_derivedTime : ByteArray := prog_1_method_26_code
def yX9_derivedTime : MethodName := ⟨RX9, "derivedTime", "(I)I"⟩
abbrev cX9_matches : ByteArray := prog_1_method_27_code
def yX9_matches : MethodName := ⟨RX9, "matches", "(I)I"⟩
abbrev cX9_bestOffset : ByteArray := prog_1_method_28_code
def yX9_bestOffset : MethodName := ⟨RX9, "bestOffset", "()I"⟩
abbrev cX9_isPointAllowed : ByteArray := prog_1_method_29_code
def yX9_isPointAllowed : MethodName := ⟨RX9, "isPointAllowed", "(IIIZ)Z"⟩
abbrev cX9_isDerived : ByteArray := prog_1_method_30_code
def yX9_isDerived : MethodName := ⟨RX9, "isDerived", "(I)Z"⟩
abbrev cX9_isOperand : ByteArray := prog_1_method_31_code
def yX9_isOperand : MethodName := ⟨RX9, "isOperand", "(I)Z"⟩
abbrev cX9_existingPoint : ByteArray := prog_1_method_32_code
def yX9_existingPoint : MethodName := ⟨RX9, "existingPoint", "(I)LCommutator$Point;"⟩
abbrev cX9_latestOf : ByteArray := prog_1_method_33_code
def yX9_latestOf : MethodName := ⟨RX9, "latestOf", "(LCommutator$Point;)LCommutator$Reading;"⟩
abbrev cX9_resultOf : ByteArray := prog_1_method_34_code
def yX9_resultOf : MethodName := ⟨RX9, "resultOf", "(I)LCommutator$Reading;"⟩
def RX10 : String := "CommutatorModel"
def TX10 : u_T := fun k => match k with
  | 0 => ("CommutatorModel", "points", "I", false)
  | 1 => ("CommutatorModel", "width", "[I", true)
  | 2 => ("CommutatorModel", "convention", "[I", true)
  | 3 => ("CommutatorModel", "period", "[I", true)
  | 4 => ("CommutatorModel", "samplesEach", "[I", true)
  | 5 => ("CommutatorModel", "phase", "[I", true)
  | 6 => ("CommutatorModel", "offset", "[I", true)
  | 7 => ("CommutatorModel", "present", "[I", true)
  | 8 => ("CommutatorModel", "sending", "[I", true)
  | 9 => ("CommutatorModel", "words", "I", false)
  | 10 => ("CommutatorModel", "onLine", "I", false)
  | 11 => ("CommutatorModel", "line", "[I", true)
  | 12 => ("CommutatorModel", "taken", "I", false)
  | 13 => ("CommutatorModel", "past", "[I", true)
  | 14 => ("CommutatorModel", "state", "I", false)
  | 15 => ("CommutatorModel", "begun", "I", false)
  | 16 => ("CommutatorModel", "matches", "I", false)
  | 17 => ("CommutatorModel", "misses", "I", false)
  | 18 => ("CommutatorModel", "isDecoded", "Z", false)
  | 19 => ("CommutatorModel", "counter", "I", false)
  | 20 => ("CommutatorModel", "number", "I", false)
  | 21 => ("CommutatorModel", "frames", "I", false)
  | 22 => ("CommutatorModel", "lost", "I", false)
  | 23 => ("CommutatorModel", "repeats", "I", false)
  | 24 => ("CommutatorModel", "value", "[I", true)
  | 25 => ("CommutatorModel", "time", "[I", true)
  | 26 => ("CommutatorModel", "samples", "[I", true)
  | 27 => ("CommutatorModel", "missing", "[I", true)
  | 28 => ("CommutatorModel", "operation", "[I", true)
  | 29 => ("CommutatorModel", "first", "[I", true)
  | 30 => ("CommutatorModel", "second", "[I", true)
  | 31 => ("CommutatorModel", "isKnown", "[Z", true)
  | 32 => ("CommutatorModel", "derived", "[I", true)
  | 33 => ("CommutatorModel", "derivedAt", "[I", true)
  | _ => ("CommutatorModel", "thrown", "I", false)
def tyX10 : Nat → FieldType := fun k => match k with
  | 0 => .int
  | 1 => .array .int
  | 2 => .array .int
  | 3 => .array .int
  | 4 => .array .int
  | 5 => .array .int
  | 6 => .array .int
  | 7 => .array .int
  | 8 => .array .int
  | 9 => .int
  | 10 => .int
  | 11 => .array .int
  | 12 => .int
  | 13 => .array .int
  | 14 => .int
  | 15 => .int
  | 16 => .int
  | 17 => .int
  | 18 => .boolean
  | 19 => .int
  | 20 => .int
  | 21 => .int
  | 22 => .int
  | 23 => .int
  | 24 => .array .int
  | 25 => .array .int
  | 26 => .array .int
  | 27 => .array .int
  | 28 => .array .int
  | 29 => .array .int
  | 30 => .array .int
  | 31 => .array .boolean
  | 32 => .array .int
  | 33 => .array .int
  | _ => .int
abbrev wsX100 : List Cond := u_ws RX10 TX10 35
theorem nmX10 : ∀ a, a < 35 → ∀ b, b < 35 → a ≠ b → (TX10 a).2.1 ≠ (TX10 b).2.1 := by decide +kernel
theorem tyX10_ok : ∀ k, k < 35 → parseFieldDescriptor (TX10 k).2.2.1 = some (tyX10 k) := by decide +kernel
abbrev cX10_init : ByteArray := prog_12_method_1_code
def yX10_init : MethodName := ⟨RX10, "<init>", "()V"⟩
abbrev cX10_thrown : ByteArray := prog_12_method_2_code
def yX10_thrown : MethodName := ⟨RX10, "thrown", "()I"⟩
abbrev cX10_can : ByteArray := prog_12_method_3_code
def yX10_can : MethodName := ⟨RX10, "can", "(I)Z"⟩
abbrev cX10_isIn : ByteArray := prog_12_method_4_code
def yX10_isIn : MethodName := ⟨RX10, "isIn", "(III)Z"⟩
abbrev cX10_isPoint : ByteArray := prog_12_method_5_code
def yX10_isPoint : MethodName := ⟨RX10, "isPoint", "(I)Z"⟩
abbrev cX10_isSent : ByteArray := prog_12_method_6_code
def yX10_isSent : MethodName := ⟨RX10, "isSent", "(II)Z"⟩
abbrev cX10_userOf : ByteArray := prog_12_method_7_code
def yX10_userOf : MethodName := ⟨RX10, "userOf", "(II)I"⟩
abbrev cX10_isFree : ByteArray := prog_12_method_8_code
def yX10_isFree : MethodName := ⟨RX10, "isFree", "(IIIII)Z"⟩
abbrev cX10_firstPlace : ByteArray := prog_12_method_9_code
def yX10_firstPlace : MethodName := ⟨RX10, "firstPlace", "(III)I"⟩
abbrev cX10_addPoint : ByteArray := prog_12_method_10_code
def yX10_addPoint : MethodName := ⟨RX10, "addPoint", "(IIIZ)I"⟩
abbrev cX10_points : ByteArray := prog_12_method_11_code
def yX10_points : MethodName := ⟨RX10, "points", "()I"⟩
abbrev cX10_place : ByteArray := prog_12_method_12_code
def yX10_place : MethodName := ⟨RX10, "place", "(I)I"⟩
abbrev cX10_spare : ByteArray := prog_12_method_13_code
def yX10_spare : MethodName := ⟨RX10, "spare", "()I"⟩
abbrev cX10_put : ByteArray := prog_12_method_14_code
def yX10_put : MethodName := ⟨RX10, "put", "(II)I"⟩
abbrev cX10_coded : ByteArray := prog_12_method_15_code
def yX10_coded : MethodName := ⟨RX10, "coded", "(II)I"⟩
abbrev cX10_read : ByteArray := prog_12_method_16_code
def yX10_read : MethodName := ⟨RX10, "read", "(II)I"⟩
abbrev cX10_sendWord : ByteArray := prog_12_method_17_code
def yX10_sendWord : MethodName := ⟨RX10, "sendWord", "()V"⟩
abbrev cX10_send : ByteArray := prog_12_method_18_code
def yX10_send : MethodName := ⟨RX10, "send", "(I)I"⟩
abbrev cX10_sent : ByteArray := prog_12_method_19_code
def yX10_sent : MethodName := ⟨RX10, "sent", "()I"⟩
abbrev cX10_onLine : ByteArray := prog_12_method_20_code
def yX10_onLine : MethodName := ⟨RX10, "onLine", "()I"⟩
abbrev cX10_isBit : ByteArray := prog_12_method_21_code
def yX10_isBit : MethodName := ⟨RX10, "isBit", "(I)Z"⟩
abbrev cX10_bit : ByteArray := prog_12_method_22_code
def yX10_bit : MethodName := ⟨RX10, "bit", "(I)I"⟩
abbrev cX10_flip : ByteArray := prog_12_method_23_code
def yX10_flip : MethodName := ⟨RX10, "flip", "(I)I"⟩
abbrev cX10_drop : ByteArray := prog_12_method_24_code
def yX10_drop : MethodName := ⟨RX10, "drop", "(II)V"⟩
abbrev cX10_cut : ByteArray := prog_12_method_25_code
def yX10_cut : MethodName := ⟨RX10, "cut", "(II)I"⟩
abbrev cX10_bits : ByteArray := prog_12_method_26_code
def yX10_bits : MethodName := ⟨RX10, "bits", "(II)I"⟩
abbrev cX10_sample : ByteArray := prog_12_method_27_code
def yX10_sample : MethodName := ⟨RX10, "sample", "(II)V"⟩
abbrev cX10_decodes : ByteArray := prog_12_method_28_code
def yX10_decodes : MethodName := ⟨RX10, "decodes", "()I"⟩
abbrev cX10_compares : ByteArray := prog_12_method_29_code
def yX10_compares : MethodName := ⟨RX10, "compares", "()V"⟩
abbrev cX10_takes : ByteArray := prog_12_method_30_code
def yX10_takes : MethodName := ⟨RX10, "takes", "(I)I"⟩
abbrev cX10_receive : ByteArray := prog_12_method_31_code
def yX10_receive : MethodName := ⟨RX10, "receive", "(I)I"⟩
abbrev cX10_state : ByteArray := prog_12_method_32_code
def yX10_state : MethodName := ⟨RX10, "state", "()I"⟩
abbrev cX10_taken : ByteArray := prog_12_method_33_code
def yX10_taken : MethodName := ⟨RX10, "taken", "()I"⟩
abbrev cX10_frames : ByteArray := prog_12_method_34_code
def yX10_frames : MethodName := ⟨RX10, "frames", "()I"⟩
abbrev cX10_lost : ByteArray := prog_12_method_35_code
def yX10_lost : MethodName := ⟨RX10, "lost", "()I"⟩
abbrev cX10_repeats : ByteArray := prog_12_method_36_code
def yX10_repeats : MethodName := ⟨RX10, "repeats", "()I"⟩
abbrev cX10_number : ByteArray := prog_12_method_37_code
def yX10_number : MethodName := ⟨RX10, "number", "()I"⟩
abbrev cX10_hasSample : ByteArray := prog_12_method_38_code
def yX10_hasSample : MethodName := ⟨RX10, "hasSample", "(I)Z"⟩
abbrev cX10_value : ByteArray := prog_12_method_39_code
def yX10_value : MethodName := ⟨RX10, "value", "(I)I"⟩
abbrev cX10_time : ByteArray := prog_12_method_40_code
def yX10_time : MethodName := ⟨RX10, "time", "(I)I"⟩
abbrev cX10_samples : ByteArray := prog_12_method_41_code
def yX10_samples : MethodName := ⟨RX10, "samples", "(I)I"⟩
abbrev cX10_missing : ByteArray := prog_12_method_42_code
def yX10_missing : MethodName := ⟨RX10, "missing", "(I)I"⟩
abbrev cX10_isOperand : ByteArray := prog_12_method_43_code
def yX10_isOperand : MethodName := ⟨RX10, "isOperand", "(I)Z"⟩
abbrev cX10_comesTo : ByteArray := prog_12_method_44_code
def yX10_comesTo : MethodName := ⟨RX10, "comesTo", "(III)Z"⟩
abbrev cX10_derive : ByteArray := prog_12_method_45_code
def yX10_derive : MethodName := ⟨RX10, "derive", "(IIII)V"⟩
abbrev cX10_hasValue : ByteArray := prog_12_method_46_code
def yX10_hasValue : MethodName := ⟨RX10, "hasValue", "(I)Z"⟩
abbrev cX10_valueOf : ByteArray := prog_12_method_47_code
def yX10_valueOf : MethodName := ⟨RX10, "valueOf", "(I)I"⟩
abbrev cX10_timeOf : ByteArray := prog_12_method_48_code
def yX10_timeOf : MethodName := ⟨RX10, "timeOf", "(I)I"⟩
abbrev cX10_made : ByteArray := prog_12_method_49_code
def yX10_made : MethodName := ⟨RX10, "made", "(IJJ)I"⟩
abbrev cX10_derives : ByteArray := prog_12_method_50_code
def yX10_derives : MethodName := ⟨RX10, "derives", "()V"⟩
abbrev cX10_isDerived : ByteArray := prog_12_method_51_code
def yX10_isDerived : MethodName := ⟨RX10, "isDerived", "(I)Z"⟩
abbrev cX10_derivedValue : ByteArray := prog_12_method_52_code
def yX10_derivedValue : MethodName := ⟨RX10, "derivedValue", "(I)I"⟩
abbrev cX10_derivedTime : ByteArray := prog_12_method_53_code
def yX10_derivedTime : MethodName := ⟨RX10, "derivedTime", "(I)I"⟩
abbrev cX10_matchesAt : ByteArray := prog_12_method_54_code
def yX10_matchesAt : MethodName := ⟨RX10, "matchesAt", "(I)I"⟩
abbrev cX10_matches : ByteArray := prog_12_method_55_code
def yX10_matches : MethodName := ⟨RX10, "matches", "(I)I"⟩
abbrev cX10_bestOffset : ByteArray := prog_12_method_56_code
def yX10_bestOffset : MethodName := ⟨RX10, "bestOffset", "()I"⟩
def RJx145de : String := "java/io/Serializable"
def TJx145de : u_T := fun k => match k with
  | _ => ("", "", "", false)
def tyJx145de : Nat → FieldType := fun k => match k with
  | _ => .int
abbrev wsJx145de0 : List Cond := u_ws RJx145de TJx145de 0
theorem nmJx145de : ∀ a, a < 0 → ∀ b, b < 0 → a ≠ b → (TJx145de a).2.1 ≠ (TJx145de b).2.1 := by decide +kernel
theorem tyJx145de_ok : ∀ k, k < 0 → parseFieldDescriptor (TJx145de k).2.2.1 = some (tyJx145de k) := by decide +kernel
def RJ6 : String := "java/lang/Integer"
def TJ6 : u_T := fun k => match k with
  | _ => ("", "", "", false)
def tyJ6 : Nat → FieldType := fun k => match k with
  | _ => .int
abbrev wsJ60 : List Cond := u_ws RJ6 TJ6 0
theorem nmJ6 : ∀ a, a < 0 → ∀ b, b < 0 → a ≠ b → (TJ6 a).2.1 ≠ (TJ6 b).2.1 := by decide +kernel
theorem tyJ6_ok : ∀ k, k < 0 → parseFieldDescriptor (TJ6 k).2.2.1 = some (tyJ6 k) := by decide +kernel
abbrev cJ6_bitCount_0f7a4 : ByteArray := prog_18_method_49_code
def yJ6_bitCount_0f7a4 : MethodName := ⟨RJ6, "bitCount", "(I)I"⟩
def RJ13 : String := "java/lang/Long"
def TJ13 : u_T := fun k => match k with
  | _ => ("", "", "", false)
def tyJ13 : Nat → FieldType := fun k => match k with
  | _ => .int
abbrev wsJ130 : List Cond := u_ws RJ13 TJ13 0
theorem nmJ13 : ∀ a, a < 0 → ∀ b, b < 0 → a ≠ b → (TJ13 a).2.1 ≠ (TJ13 b).2.1 := by decide +kernel
theorem tyJ13_ok : ∀ k, k < 0 → parseFieldDescriptor (TJ13 k).2.2.1 = some (tyJ13 k) := by decide +kernel
abbrev cJ13_bitCount_95d88 : ByteArray := prog_19_method_50_code
def yJ13_bitCount_95d88 : MethodName := ⟨RJ13, "bitCount", "(J)I"⟩
def RJ9 : String := "java/lang/Math"
def TJ9 : u_T := fun k => match k with
  | _ => ("", "", "", false)
def tyJ9 : Nat → FieldType := fun k => match k with
  | _ => .int
abbrev wsJ90 : List Cond := u_ws RJ9 TJ9 0
theorem nmJ9 : ∀ a, a < 0 → ∀ b, b < 0 → a ≠ b → (TJ9 a).2.1 ≠ (TJ9 b).2.1 := by decide +kernel
theorem tyJ9_ok : ∀ k, k < 0 → parseFieldDescriptor (TJ9 k).2.2.1 = some (tyJ9 k) := by decide +kernel
abbrev cJ9_max_7cf53 : ByteArray := prog_20_method_65_code
def yJ9_max_7cf53 : MethodName := ⟨RJ9, "max", "(II)I"⟩
abbrev cJ9_max_f86c9 : ByteArray := prog_20_method_66_code
def yJ9_max_f86c9 : MethodName := ⟨RJ9, "max", "(JJ)J"⟩
abbrev cJ9_min_7cf53 : ByteArray := prog_20_method_69_code
def yJ9_min_7cf53 : MethodName := ⟨RJ9, "min", "(II)I"⟩
abbrev cJ9_min_f86c9 : ByteArray := prog_20_method_70_code
def yJ9_min_f86c9 : MethodName := ⟨RJ9, "min", "(JJ)J"⟩
def RJ10 : String := "java/lang/System"
def TJ10 : u_T := fun k => match k with
  | _ => ("", "", "", false)
def tyJ10 : Nat → FieldType := fun k => match k with
  | _ => .int
abbrev wsJ100 : List Cond := u_ws RJ10 TJ10 0
theorem nmJ10 : ∀ a, a < 0 → ∀ b, b < 0 → a ≠ b → (TJ10 a).2.1 ≠ (TJ10 b).2.1 := by decide +kernel
theorem tyJ10_ok : ∀ k, k < 0 → parseFieldDescriptor (TJ10 k).2.2.1 = some (tyJ10 k) := by decide +kernel
def RL : String := "CommutatorLaw"
abbrev cL_addPoint : ByteArray := method_3_code
def yL_addPoint : MethodName := ⟨RL, "addPoint", "(LCommutator;IIIZ[J)I"⟩
abbrev cL_place : ByteArray := method_4_code
def yL_place : MethodName := ⟨RL, "place", "(LCommutator;I[J)I"⟩
abbrev cL_put : ByteArray := method_5_code
def yL_put : MethodName := ⟨RL, "put", "(LCommutator;II[J)I"⟩
abbrev cL_send : ByteArray := method_6_code
def yL_send : MethodName := ⟨RL, "send", "(LCommutator;I[J)I"⟩
abbrev cL_bit : ByteArray := method_7_code
def yL_bit : MethodName := ⟨RL, "bit", "(LCommutator;I[J)I"⟩
abbrev cL_flip : ByteArray := method_8_code
def yL_flip : MethodName := ⟨RL, "flip", "(LCommutator;I[J)I"⟩
abbrev cL_cut : ByteArray := method_9_code
def yL_cut : MethodName := ⟨RL, "cut", "(LCommutator;II[J)I"⟩
abbrev cL_receive : ByteArray := method_10_code
def yL_receive : MethodName := ⟨RL, "receive", "(LCommutator;I[J)I"⟩
abbrev cL_number : ByteArray := method_11_code
def yL_number : MethodName := ⟨RL, "number", "(LCommutator;[J)I"⟩
abbrev cL_value : ByteArray := method_12_code
def yL_value : MethodName := ⟨RL, "value", "(LCommutator;I[J)I"⟩
abbrev cL_time : ByteArray := method_13_code
def yL_time : MethodName := ⟨RL, "time", "(LCommutator;I[J)I"⟩
abbrev cL_samples : ByteArray := method_14_code
def yL_samples : MethodName := ⟨RL, "samples", "(LCommutator;I[J)I"⟩
abbrev cL_missing : ByteArray := method_15_code
def yL_missing : MethodName := ⟨RL, "missing", "(LCommutator;I[J)I"⟩
abbrev cL_derive : ByteArray := method_16_code
def yL_derive : MethodName := ⟨RL, "derive", "(LCommutator;IIII)I"⟩
abbrev cL_derivedValue : ByteArray := method_17_code
def yL_derivedValue : MethodName := ⟨RL, "derivedValue", "(LCommutator;I[J)I"⟩
abbrev cL_derivedTime : ByteArray := method_18_code
def yL_derivedTime : MethodName := ⟨RL, "derivedTime", "(LCommutator;I[J)I"⟩
abbrev cL_matches : ByteArray := method_19_code
def yL_matches : MethodName := ⟨RL, "matches", "(LCommutator;I[J)I"⟩
abbrev cL_law : ByteArray := code
def yL_law : MethodName := ⟨RL, "law", "([I)Z"⟩
def wsX0_init : List Cond := .code yX0_init cX0_init 1 none :: ([.methodLink RX0 3 objectInit, .instanceMethod objectInit, .code objectInit ⟨#[0xb1]⟩ 1 none])
def wsX5_at : List Cond := .code yX5_at cX5_at 2 (some (.object "Commutator$Point")) :: ([.fieldLink RX5 21 "Commutator$PointTable" "count" "I", .fieldLink RX5 11 "Commutator$PointTable" "rows" "[LCommutator$Point;"] ++ wsX50)
def wsX4_isSentIn : List Cond := .code yX4_isSentIn cX4_isSentIn 2 (some .boolean) :: ([.fieldLink RX4 18 "Commutator$Point" "period" "I", .fieldLink RX4 25 "Commutator$Point" "phase" "I"] ++ wsX40)
def wsX4_samplesInFrame : List Cond := .code yX4_samplesInFrame cX4_samplesInFrame 1 (some .int) :: ([.fieldLink RX4 21 "Commutator$Point" "twice" "Z"] ++ wsX40)
def wsX4_noteMissing : List Cond := .code yX4_noteMissing cX4_noteMissing 1 none :: ([.fieldLink RX4 62 "Commutator$Point" "missingCount" "I", .methodLink RX4 46 yX4_samplesInFrame, .instanceMethod yX4_samplesInFrame, .selects RX4 yX4_samplesInFrame yX4_samplesInFrame, .initialized RX4, .code yX4_samplesInFrame cX4_samplesInFrame 1 (some .int), .fieldLink RX4 21 "Commutator$Point" "twice" "Z"] ++ wsX40)
def wsX0_noteLost_r1 : List Cond := [Cond.fieldLink RX0 32 "Commutator$Decoder" "lostFrames" "I", Cond.fieldLink RX0 18 "Commutator$Decoder" "latestCounter" "I", Cond.methodLink RX0 40 yX5_at, Cond.instanceMethod yX5_at, Cond.selects RX5 yX5_at yX5_at, Cond.initialized RX5, Cond.code yX5_at cX5_at 2 (some (.object "Commutator$Point")), Cond.fieldLink RX5 21 "Commutator$PointTable" "count" "I", Cond.fieldLink RX5 11 "Commutator$PointTable" "rows" "[LCommutator$Point;", Cond.methodLink RX0 44 yX4_isSentIn, Cond.instanceMethod yX4_isSentIn, Cond.selects RX4 yX4_isSentIn yX4_isSentIn, Cond.initialized RX4, Cond.code yX4_isSentIn cX4_isSentIn 2 (some .boolean), Cond.fieldLink RX4 18 "Commutator$Point" "period" "I", Cond.fieldLink RX4 25 "Commutator$Point" "phase" "I", Cond.methodLink RX0 50 yX4_noteMissing, Cond.instanceMethod yX4_noteMissing, Cond.selects RX4 yX4_noteMissing yX4_noteMissing, Cond.code yX4_noteMissing cX4_noteMissing 1 none, Cond.fieldLink RX4 62 "Commutator$Point" "missingCount" "I", Cond.methodLink RX4 46 yX4_samplesInFrame, Cond.instanceMethod yX4_samplesInFrame, Cond.selects RX4 yX4_samplesInFrame yX4_samplesInFrame]
def wsX0_noteLost_r2 : List Cond := [Cond.code yX4_samplesInFrame cX4_samplesInFrame 1 (some .int), Cond.fieldLink RX4 21 "Commutator$Point" "twice" "Z"]
def wsX0_noteLost : List Cond := .code yX0_noteLost cX0_noteLost 6 none :: ((wsX0_noteLost_r1 ++ wsX0_noteLost_r2) ++ wsX00 ++ wsX50 ++ wsX40)
def wsX4_firstBit : List Cond := .code yX4_firstBit cX4_firstBit 2 (some .int) :: ([.fieldLink RX4 28 "Commutator$Point" "offset" "I"] ++ wsX40)
def wsX4_shift : List Cond := .code yX4_shift cX4_shift 2 (some .int) :: ([.fieldLink RX4 9 "Commutator$Point" "width" "I", .methodLink RX4 42 yX4_firstBit, .instanceMethod yX4_firstBit, .selects RX4 yX4_firstBit yX4_firstBit, .initialized RX4, .code yX4_firstBit cX4_firstBit 2 (some .int), .fieldLink RX4 28 "Commutator$Point" "offset" "I"] ++ wsX40)
def wsX4_signWeight : List Cond := .code yX4_signWeight cX4_signWeight 1 (some .int) :: ([.fieldLink RX4 9 "Commutator$Point" "width" "I"] ++ wsX40)
def wsX4_decode : List Cond := .code yX4_decode cX4_decode 3 (some .int) :: ([.fieldLink RX4 15 "Commutator$Point" "convention" "I", .fieldLink RX4 9 "Commutator$Point" "width" "I", .methodLink RX4 38 yX4_signWeight, .instanceMethod yX4_signWeight, .selects RX4 yX4_signWeight yX4_signWeight, .initialized RX4, .code yX4_signWeight cX4_signWeight 1 (some .int)] ++ wsX40)
def wsX6_set : List Cond := .code yX6_set cX6_set 3 none :: ([.fieldLink RX6 7 "Commutator$Reading" "known" "Z", .fieldLink RX6 13 "Commutator$Reading" "amount" "I", .fieldLink RX6 17 "Commutator$Reading" "moment" "I"] ++ wsX60)
def wsX4_readFrom_r1 : List Cond := [Cond.fieldLink RX4 9 "Commutator$Point" "width" "I", Cond.fieldLink RX4 34 "Commutator$Point" "latest" "LCommutator$Reading;", Cond.fieldLink RX4 59 "Commutator$Point" "sampleCount" "I", Cond.methodLink RX4 46 yX4_samplesInFrame, Cond.instanceMethod yX4_samplesInFrame, Cond.selects RX4 yX4_samplesInFrame yX4_samplesInFrame, Cond.initialized RX4, Cond.code yX4_samplesInFrame cX4_samplesInFrame 1 (some .int), Cond.fieldLink RX4 21 "Commutator$Point" "twice" "Z", Cond.methodLink RX4 49 yX4_shift, Cond.instanceMethod yX4_shift, Cond.selects RX4 yX4_shift yX4_shift, Cond.code yX4_shift cX4_shift 2 (some .int), Cond.methodLink RX4 42 yX4_firstBit, Cond.instanceMethod yX4_firstBit, Cond.selects RX4 yX4_firstBit yX4_firstBit, Cond.code yX4_firstBit cX4_firstBit 2 (some .int), Cond.fieldLink RX4 28 "Commutator$Point" "offset" "I", Cond.methodLink RX4 52 yX4_decode, Cond.instanceMethod yX4_decode, Cond.selects RX4 yX4_decode yX4_decode, Cond.code yX4_decode cX4_decode 3 (some .int), Cond.fieldLink RX4 15 "Commutator$Point" "convention" "I", Cond.methodLink RX4 38 yX4_signWeight]
def wsX4_readFrom_r2 : List Cond := [Cond.instanceMethod yX4_signWeight, Cond.selects RX4 yX4_signWeight yX4_signWeight, Cond.code yX4_signWeight cX4_signWeight 1 (some .int), Cond.methodLink RX4 55 yX6_set, Cond.instanceMethod yX6_set, Cond.selects RX6 yX6_set yX6_set, Cond.initialized RX6, Cond.code yX6_set cX6_set 3 none, Cond.fieldLink RX6 7 "Commutator$Reading" "known" "Z", Cond.fieldLink RX6 13 "Commutator$Reading" "amount" "I", Cond.fieldLink RX6 17 "Commutator$Reading" "moment" "I"]
def wsX4_readFrom : List Cond := .code yX4_readFrom cX4_readFrom 6 none :: ((wsX4_readFrom_r1 ++ wsX4_readFrom_r2) ++ wsX40 ++ wsX60)
def wsX0_giveSamples_r1 : List Cond := [Cond.fieldLink RX0 18 "Commutator$Decoder" "latestCounter" "I", Cond.fieldLink RX0 15 "Commutator$Decoder" "latestNumber" "I", Cond.methodLink RX0 40 yX5_at, Cond.instanceMethod yX5_at, Cond.selects RX5 yX5_at yX5_at, Cond.initialized RX5, Cond.code yX5_at cX5_at 2 (some (.object "Commutator$Point")), Cond.fieldLink RX5 21 "Commutator$PointTable" "count" "I", Cond.fieldLink RX5 11 "Commutator$PointTable" "rows" "[LCommutator$Point;", Cond.methodLink RX0 44 yX4_isSentIn, Cond.instanceMethod yX4_isSentIn, Cond.selects RX4 yX4_isSentIn yX4_isSentIn, Cond.initialized RX4, Cond.code yX4_isSentIn cX4_isSentIn 2 (some .boolean), Cond.fieldLink RX4 18 "Commutator$Point" "period" "I", Cond.fieldLink RX4 25 "Commutator$Point" "phase" "I", Cond.methodLink RX0 53 yX4_readFrom, Cond.instanceMethod yX4_readFrom, Cond.selects RX4 yX4_readFrom yX4_readFrom, Cond.code yX4_readFrom cX4_readFrom 6 none, Cond.fieldLink RX4 9 "Commutator$Point" "width" "I", Cond.fieldLink RX4 34 "Commutator$Point" "latest" "LCommutator$Reading;", Cond.fieldLink RX4 59 "Commutator$Point" "sampleCount" "I", Cond.methodLink RX4 46 yX4_samplesInFrame]
def wsX0_giveSamples_r2 : List Cond := [Cond.instanceMethod yX4_samplesInFrame, Cond.selects RX4 yX4_samplesInFrame yX4_samplesInFrame, Cond.code yX4_samplesInFrame cX4_samplesInFrame 1 (some .int), Cond.fieldLink RX4 21 "Commutator$Point" "twice" "Z", Cond.methodLink RX4 49 yX4_shift, Cond.instanceMethod yX4_shift, Cond.selects RX4 yX4_shift yX4_shift, Cond.code yX4_shift cX4_shift 2 (some .int), Cond.methodLink RX4 42 yX4_firstBit, Cond.instanceMethod yX4_firstBit, Cond.selects RX4 yX4_firstBit yX4_firstBit, Cond.code yX4_firstBit cX4_firstBit 2 (some .int), Cond.fieldLink RX4 28 "Commutator$Point" "offset" "I", Cond.methodLink RX4 52 yX4_decode, Cond.instanceMethod yX4_decode, Cond.selects RX4 yX4_decode yX4_decode, Cond.code yX4_decode cX4_decode 3 (some .int), Cond.fieldLink RX4 15 "Commutator$Point" "convention" "I", Cond.methodLink RX4 38 yX4_signWeight, Cond.instanceMethod yX4_signWeight, Cond.selects RX4 yX4_signWeight yX4_signWeight, Cond.code yX4_signWeight cX4_signWeight 1 (some .int), Cond.methodLink RX4 55 yX6_set, Cond.instanceMethod yX6_set]
def wsX0_giveSamples_r3 : List Cond := [Cond.selects RX6 yX6_set yX6_set, Cond.initialized RX6, Cond.code yX6_set cX6_set 3 none, Cond.fieldLink RX6 7 "Commutator$Reading" "known" "Z", Cond.fieldLink RX6 13 "Commutator$Reading" "amount" "I", Cond.fieldLink RX6 17 "Commutator$Reading" "moment" "I"]
def wsX0_giveSamples : List Cond := .code yX0_giveSamples cX0_giveSamples 6 none :: ((wsX0_giveSamples_r1 ++ (wsX0_giveSamples_r2 ++ wsX0_giveSamples_r3)) ++ wsX50 ++ wsX00 ++ wsX40 ++ wsX60)
def wsX0_decode_r1 : List Cond := [Cond.fieldLink RX0 9 "Commutator$Decoder" "usedFrames" "I", Cond.fieldLink RX0 15 "Commutator$Decoder" "latestNumber" "I", Cond.fieldLink RX0 18 "Commutator$Decoder" "latestCounter" "I", Cond.fieldLink RX0 21 "Commutator$Decoder" "repeatedFrames" "I", Cond.methodLink RX0 24 yX0_noteLost, Cond.instanceMethod yX0_noteLost, Cond.selects RX0 yX0_noteLost yX0_noteLost, Cond.initialized RX0, Cond.code yX0_noteLost cX0_noteLost 6 none, Cond.fieldLink RX0 32 "Commutator$Decoder" "lostFrames" "I", Cond.methodLink RX0 40 yX5_at, Cond.instanceMethod yX5_at, Cond.selects RX5 yX5_at yX5_at, Cond.initialized RX5, Cond.code yX5_at cX5_at 2 (some (.object "Commutator$Point")), Cond.fieldLink RX5 21 "Commutator$PointTable" "count" "I", Cond.fieldLink RX5 11 "Commutator$PointTable" "rows" "[LCommutator$Point;", Cond.methodLink RX0 44 yX4_isSentIn, Cond.instanceMethod yX4_isSentIn, Cond.selects RX4 yX4_isSentIn yX4_isSentIn, Cond.initialized RX4, Cond.code yX4_isSentIn cX4_isSentIn 2 (some .boolean), Cond.fieldLink RX4 18 "Commutator$Point" "period" "I", Cond.fieldLink RX4 25 "Commutator$Point" "phase" "I"]
def wsX0_decode_r2 : List Cond := [Cond.methodLink RX0 50 yX4_noteMissing, Cond.instanceMethod yX4_noteMissing, Cond.selects RX4 yX4_noteMissing yX4_noteMissing, Cond.code yX4_noteMissing cX4_noteMissing 1 none, Cond.fieldLink RX4 62 "Commutator$Point" "missingCount" "I", Cond.methodLink RX4 46 yX4_samplesInFrame, Cond.instanceMethod yX4_samplesInFrame, Cond.selects RX4 yX4_samplesInFrame yX4_samplesInFrame, Cond.code yX4_samplesInFrame cX4_samplesInFrame 1 (some .int), Cond.fieldLink RX4 21 "Commutator$Point" "twice" "Z", Cond.methodLink RX0 28 yX0_giveSamples, Cond.instanceMethod yX0_giveSamples, Cond.selects RX0 yX0_giveSamples yX0_giveSamples, Cond.code yX0_giveSamples cX0_giveSamples 6 none, Cond.methodLink RX0 53 yX4_readFrom, Cond.instanceMethod yX4_readFrom, Cond.selects RX4 yX4_readFrom yX4_readFrom, Cond.code yX4_readFrom cX4_readFrom 6 none, Cond.fieldLink RX4 9 "Commutator$Point" "width" "I", Cond.fieldLink RX4 34 "Commutator$Point" "latest" "LCommutator$Reading;", Cond.fieldLink RX4 59 "Commutator$Point" "sampleCount" "I", Cond.methodLink RX4 49 yX4_shift, Cond.instanceMethod yX4_shift, Cond.selects RX4 yX4_shift yX4_shift]
def wsX0_decode_r3 : List Cond := [Cond.code yX4_shift cX4_shift 2 (some .int), Cond.methodLink RX4 42 yX4_firstBit, Cond.instanceMethod yX4_firstBit, Cond.selects RX4 yX4_firstBit yX4_firstBit, Cond.code yX4_firstBit cX4_firstBit 2 (some .int), Cond.fieldLink RX4 28 "Commutator$Point" "offset" "I", Cond.methodLink RX4 52 yX4_decode, Cond.instanceMethod yX4_decode, Cond.selects RX4 yX4_decode yX4_decode, Cond.code yX4_decode cX4_decode 3 (some .int), Cond.fieldLink RX4 15 "Commutator$Point" "convention" "I", Cond.methodLink RX4 38 yX4_signWeight, Cond.instanceMethod yX4_signWeight, Cond.selects RX4 yX4_signWeight yX4_signWeight, Cond.code yX4_signWeight cX4_signWeight 1 (some .int), Cond.methodLink RX4 55 yX6_set, Cond.instanceMethod yX6_set, Cond.selects RX6 yX6_set yX6_set, Cond.initialized RX6, Cond.code yX6_set cX6_set 3 none, Cond.fieldLink RX6 7 "Commutator$Reading" "known" "Z", Cond.fieldLink RX6 13 "Commutator$Reading" "amount" "I", Cond.fieldLink RX6 17 "Commutator$Reading" "moment" "I"]
def wsX0_decode : List Cond := .code yX0_decode cX0_decode 6 none :: ((wsX0_decode_r1 ++ (wsX0_decode_r2 ++ wsX0_decode_r3)) ++ wsX00 ++ wsX50 ++ wsX40 ++ wsX60)
def wsX6_init : List Cond := .code yX6_init cX6_init 1 none :: ([.methodLink RX6 1 objectInit, .instanceMethod objectInit, .code objectInit ⟨#[0xb1]⟩ 1 none])
def wsX1_init : List Cond := .code yX1_init cX1_init 1 none :: ([.methodLink RX1 1 objectInit, .instanceMethod objectInit, .code objectInit ⟨#[0xb1]⟩ 1 none, .classLink RX1 7 RX6, .instantiable RX6 3, .initialized RX6, .fieldLink RX1 10 "Commutator$Derived" "result" "LCommutator$Reading;", .instanceMethod yX6_init, .code yX6_init cX6_init 1 none, .methodLink RX6 1 objectInit] ++ wsX60 ++ wsX10)
def wsX1_operate : List Cond := .code yX1_operate cX1_operate 5 (some .long) :: ([.fieldLink RX1 46 "Commutator$Derived" "operation" "I", .methodLink RX1 33 Lib.MathLoose.max_long.x, .static Lib.MathLoose.max_long.x, .initialized "java/lang/Math", .code Lib.MathLoose.max_long.x Lib.MathLoose.max_long.code 4 (some .long), .methodLink RX1 28 Lib.MathLoose.min_long.x, .static Lib.MathLoose.min_long.x, .code Lib.MathLoose.min_long.x Lib.MathLoose.min_long.code 4 (some .long)] ++ wsX10)
def wsX1_combine_r1 : List Cond := [Cond.constantLong RX1 16 (-1000000), Cond.constantLong RX1 18 (1000000), Cond.methodLink RX1 28 Lib.MathLoose.min_long.x, Cond.static Lib.MathLoose.min_long.x, Cond.initialized "java/lang/Math", Cond.code Lib.MathLoose.min_long.x Lib.MathLoose.min_long.code 4 (some .long), Cond.methodLink RX1 33 Lib.MathLoose.max_long.x, Cond.static Lib.MathLoose.max_long.x, Cond.code Lib.MathLoose.max_long.x Lib.MathLoose.max_long.code 4 (some .long), Cond.fieldLink RX1 10 "Commutator$Derived" "result" "LCommutator$Reading;", Cond.methodLink RX1 39 Lib.Math.max.name, Cond.static Lib.Math.max.name, Cond.code Lib.Math.max.name Lib.Math.max.code 2 (some .int), Cond.methodLink RX1 24 yX1_operate, Cond.instanceMethod yX1_operate, Cond.selects RX1 yX1_operate yX1_operate, Cond.initialized RX1, Cond.code yX1_operate cX1_operate 5 (some .long), Cond.fieldLink RX1 46 "Commutator$Derived" "operation" "I", Cond.methodLink RX1 42 yX6_set, Cond.instanceMethod yX6_set, Cond.selects RX6 yX6_set yX6_set, Cond.initialized RX6, Cond.code yX6_set cX6_set 3 none]
def wsX1_combine_r2 : List Cond := [Cond.fieldLink RX6 7 "Commutator$Reading" "known" "Z", Cond.fieldLink RX6 13 "Commutator$Reading" "amount" "I", Cond.fieldLink RX6 17 "Commutator$Reading" "moment" "I"]
def wsX1_combine : List Cond := .code yX1_combine cX1_combine 4 none :: ((wsX1_combine_r1 ++ wsX1_combine_r2) ++ wsX60 ++ wsX10)
def wsX2_init : List Cond := .code yX2_init cX2_init 2 none :: ([.methodLink RX2 3 objectInit, .instanceMethod objectInit, .code objectInit ⟨#[0xb1]⟩ 1 none, .classLink RX2 9 RX1, .fieldLink RX2 11 "Commutator$DerivedTable" "rows" "[LCommutator$Derived;", .instantiable RX1 5, .initialized RX1, .instanceMethod yX1_init, .code yX1_init cX1_init 1 none, .methodLink RX1 1 objectInit, .classLink RX1 7 RX6, .instantiable RX6 3, .initialized RX6, .fieldLink RX1 10 "Commutator$Derived" "result" "LCommutator$Reading;", .instanceMethod yX6_init, .code yX6_init cX6_init 1 none, .methodLink RX6 1 objectInit] ++ wsX20 ++ wsX10 ++ wsX60)
def wsX2_at : List Cond := .code yX2_at cX2_at 2 (some (.object "Commutator$Derived")) :: ([.fieldLink RX2 11 "Commutator$DerivedTable" "rows" "[LCommutator$Derived;"] ++ wsX20)
def wsX2_define : List Cond := .code yX2_define cX2_define 6 none :: ([.methodLink RX2 18 yX2_at, .instanceMethod yX2_at, .selects RX2 yX2_at yX2_at, .initialized RX2, .code yX2_at cX2_at 2 (some (.object "Commutator$Derived")), .fieldLink RX2 11 "Commutator$DerivedTable" "rows" "[LCommutator$Derived;"] ++ wsX10 ++ wsX20)
def wsX2_operandMask : List Cond := .code yX2_operandMask cX2_operandMask 1 (some .int) :: ([])
def wsX2_needsOf : List Cond := .code yX2_needsOf cX2_needsOf 5 (some .int) :: ([.fieldLink RX2 11 "Commutator$DerivedTable" "rows" "[LCommutator$Derived;", .methodLink RX2 36 yX2_operandMask, .static yX2_operandMask, .initialized RX2, .code yX2_operandMask cX2_operandMask 1 (some .int)] ++ wsX20 ++ wsX10)
def wsX2_wouldNeedItself : List Cond := .code yX2_wouldNeedItself cX2_wouldNeedItself 6 (some .boolean) :: ([.fieldLink RX2 11 "Commutator$DerivedTable" "rows" "[LCommutator$Derived;", .methodLink RX2 36 yX2_operandMask, .static yX2_operandMask, .initialized RX2, .code yX2_operandMask cX2_operandMask 1 (some .int), .methodLink RX2 40 yX2_needsOf, .instanceMethod yX2_needsOf, .selects RX2 yX2_needsOf yX2_needsOf, .code yX2_needsOf cX2_needsOf 5 (some .int)] ++ wsX20 ++ wsX10)
def wsX6_forget : List Cond := .code yX6_forget cX6_forget 1 none :: ([.fieldLink RX6 7 "Commutator$Reading" "known" "Z"] ++ wsX60)
def wsX2_operand : List Cond := .code yX2_operand cX2_operand 4 (some (.object "Commutator$Reading")) :: ([.methodLink RX2 18 yX2_at, .instanceMethod yX2_at, .selects RX2 yX2_at yX2_at, .initialized RX2, .code yX2_at cX2_at 2 (some (.object "Commutator$Derived")), .fieldLink RX2 11 "Commutator$DerivedTable" "rows" "[LCommutator$Derived;", .methodLink RX2 67 yX5_at, .instanceMethod yX5_at, .selects RX5 yX5_at yX5_at, .initialized RX5, .code yX5_at cX5_at 2 (some (.object "Commutator$Point")), .fieldLink RX5 21 "Commutator$PointTable" "count" "I", .fieldLink RX5 11 "Commutator$PointTable" "rows" "[LCommutator$Point;"] ++ wsX10 ++ wsX40 ++ wsX20 ++ wsX50)
def wsX2_computeOne_r1 : List Cond := [Cond.methodLink RX2 59 yX2_operand, Cond.instanceMethod yX2_operand, Cond.selects RX2 yX2_operand yX2_operand, Cond.initialized RX2, Cond.code yX2_operand cX2_operand 4 (some (.object "Commutator$Reading")), Cond.methodLink RX2 18 yX2_at, Cond.instanceMethod yX2_at, Cond.selects RX2 yX2_at yX2_at, Cond.code yX2_at cX2_at 2 (some (.object "Commutator$Derived")), Cond.fieldLink RX2 11 "Commutator$DerivedTable" "rows" "[LCommutator$Derived;", Cond.methodLink RX2 67 yX5_at, Cond.instanceMethod yX5_at, Cond.selects RX5 yX5_at yX5_at, Cond.initialized RX5, Cond.code yX5_at cX5_at 2 (some (.object "Commutator$Point")), Cond.fieldLink RX5 21 "Commutator$PointTable" "count" "I", Cond.fieldLink RX5 11 "Commutator$PointTable" "rows" "[LCommutator$Point;", Cond.methodLink RX2 63 yX1_combine, Cond.instanceMethod yX1_combine, Cond.selects RX1 yX1_combine yX1_combine, Cond.initialized RX1, Cond.code yX1_combine cX1_combine 4 none, Cond.constantLong RX1 16 (-1000000), Cond.constantLong RX1 18 (1000000)]
def wsX2_computeOne_r2 : List Cond := [Cond.methodLink RX1 28 Lib.MathLoose.min_long.x, Cond.static Lib.MathLoose.min_long.x, Cond.initialized "java/lang/Math", Cond.code Lib.MathLoose.min_long.x Lib.MathLoose.min_long.code 4 (some .long), Cond.methodLink RX1 33 Lib.MathLoose.max_long.x, Cond.static Lib.MathLoose.max_long.x, Cond.code Lib.MathLoose.max_long.x Lib.MathLoose.max_long.code 4 (some .long), Cond.fieldLink RX1 10 "Commutator$Derived" "result" "LCommutator$Reading;", Cond.methodLink RX1 39 Lib.Math.max.name, Cond.static Lib.Math.max.name, Cond.code Lib.Math.max.name Lib.Math.max.code 2 (some .int), Cond.methodLink RX1 24 yX1_operate, Cond.instanceMethod yX1_operate, Cond.selects RX1 yX1_operate yX1_operate, Cond.code yX1_operate cX1_operate 5 (some .long), Cond.fieldLink RX1 46 "Commutator$Derived" "operation" "I", Cond.methodLink RX1 42 yX6_set, Cond.instanceMethod yX6_set, Cond.selects RX6 yX6_set yX6_set, Cond.initialized RX6, Cond.code yX6_set cX6_set 3 none, Cond.fieldLink RX6 7 "Commutator$Reading" "known" "Z", Cond.fieldLink RX6 13 "Commutator$Reading" "amount" "I", Cond.fieldLink RX6 17 "Commutator$Reading" "moment" "I"]
def wsX2_computeOne : List Cond := .code yX2_computeOne cX2_computeOne 5 none :: ((wsX2_computeOne_r1 ++ wsX2_computeOne_r2) ++ wsX10 ++ wsX60 ++ wsX40 ++ wsX20 ++ wsX50)
def wsX2_compute_r1 : List Cond := [Cond.fieldLink RX2 11 "Commutator$DerivedTable" "rows" "[LCommutator$Derived;", Cond.methodLink RX2 47 yX6_forget, Cond.instanceMethod yX6_forget, Cond.selects RX6 yX6_forget yX6_forget, Cond.initialized RX6, Cond.code yX6_forget cX6_forget 1 none, Cond.fieldLink RX6 7 "Commutator$Reading" "known" "Z", Cond.methodLink RX2 52 yX2_computeOne, Cond.instanceMethod yX2_computeOne, Cond.selects RX2 yX2_computeOne yX2_computeOne, Cond.initialized RX2, Cond.code yX2_computeOne cX2_computeOne 5 none, Cond.methodLink RX2 59 yX2_operand, Cond.instanceMethod yX2_operand, Cond.selects RX2 yX2_operand yX2_operand, Cond.code yX2_operand cX2_operand 4 (some (.object "Commutator$Reading")), Cond.methodLink RX2 18 yX2_at, Cond.instanceMethod yX2_at, Cond.selects RX2 yX2_at yX2_at, Cond.code yX2_at cX2_at 2 (some (.object "Commutator$Derived")), Cond.methodLink RX2 67 yX5_at, Cond.instanceMethod yX5_at, Cond.selects RX5 yX5_at yX5_at, Cond.initialized RX5]
def wsX2_compute_r2 : List Cond := [Cond.code yX5_at cX5_at 2 (some (.object "Commutator$Point")), Cond.fieldLink RX5 21 "Commutator$PointTable" "count" "I", Cond.fieldLink RX5 11 "Commutator$PointTable" "rows" "[LCommutator$Point;", Cond.methodLink RX2 63 yX1_combine, Cond.instanceMethod yX1_combine, Cond.selects RX1 yX1_combine yX1_combine, Cond.initialized RX1, Cond.code yX1_combine cX1_combine 4 none, Cond.constantLong RX1 16 (-1000000), Cond.constantLong RX1 18 (1000000), Cond.methodLink RX1 28 Lib.MathLoose.min_long.x, Cond.static Lib.MathLoose.min_long.x, Cond.initialized "java/lang/Math", Cond.code Lib.MathLoose.min_long.x Lib.MathLoose.min_long.code 4 (some .long), Cond.methodLink RX1 33 Lib.MathLoose.max_long.x, Cond.static Lib.MathLoose.max_long.x, Cond.code Lib.MathLoose.max_long.x Lib.MathLoose.max_long.code 4 (some .long), Cond.fieldLink RX1 10 "Commutator$Derived" "result" "LCommutator$Reading;", Cond.methodLink RX1 39 Lib.Math.max.name, Cond.static Lib.Math.max.name, Cond.code Lib.Math.max.name Lib.Math.max.code 2 (some .int), Cond.methodLink RX1 24 yX1_operate, Cond.instanceMethod yX1_operate, Cond.selects RX1 yX1_operate yX1_operate]
def wsX2_compute_r3 : List Cond := [Cond.code yX1_operate cX1_operate 5 (some .long), Cond.fieldLink RX1 46 "Commutator$Derived" "operation" "I", Cond.methodLink RX1 42 yX6_set, Cond.instanceMethod yX6_set, Cond.selects RX6 yX6_set yX6_set, Cond.code yX6_set cX6_set 3 none, Cond.fieldLink RX6 13 "Commutator$Reading" "amount" "I", Cond.fieldLink RX6 17 "Commutator$Reading" "moment" "I"]
def wsX2_compute : List Cond := .code yX2_compute cX2_compute 5 (some (.object "Commutator$Reading")) :: ((wsX2_compute_r1 ++ (wsX2_compute_r2 ++ wsX2_compute_r3)) ++ wsX20 ++ wsX10 ++ wsX60 ++ wsX40 ++ wsX50)
def wsX3_init : List Cond := .code yX3_init cX3_init 1 none :: ([.methodLink RX3 3 objectInit, .instanceMethod objectInit, .code objectInit ⟨#[0xb1]⟩ 1 none, .arrayClass .int, .fieldLink RX3 9 "Commutator$Line" "bits" "[I"] ++ wsX30)
def wsX3_length : List Cond := .code yX3_length cX3_length 1 (some .int) :: ([.fieldLink RX3 15 "Commutator$Line" "end" "I", .fieldLink RX3 19 "Commutator$Line" "head" "I"] ++ wsX30)
def wsX3_holds : List Cond := .code yX3_holds cX3_holds 3 (some .boolean) :: ([.methodLink RX3 22 yX3_length, .instanceMethod yX3_length, .selects RX3 yX3_length yX3_length, .initialized RX3, .code yX3_length cX3_length 1 (some .int), .fieldLink RX3 15 "Commutator$Line" "end" "I", .fieldLink RX3 19 "Commutator$Line" "head" "I"] ++ wsX30)
def wsX3_append : List Cond := .code yX3_append cX3_append 2 none :: ([.fieldLink RX3 15 "Commutator$Line" "end" "I", .fieldLink RX3 9 "Commutator$Line" "bits" "[I"] ++ wsX30)
def wsX3_look : List Cond := .code yX3_look cX3_look 2 (some .int) :: ([.fieldLink RX3 9 "Commutator$Line" "bits" "[I", .fieldLink RX3 19 "Commutator$Line" "head" "I", .methodLink RX3 26 yX3_holds, .instanceMethod yX3_holds, .selects RX3 yX3_holds yX3_holds, .initialized RX3, .code yX3_holds cX3_holds 3 (some .boolean), .methodLink RX3 22 yX3_length, .instanceMethod yX3_length, .selects RX3 yX3_length yX3_length, .code yX3_length cX3_length 1 (some .int), .fieldLink RX3 15 "Commutator$Line" "end" "I"] ++ wsX30)
def wsX3_turnOver : List Cond := .code yX3_turnOver cX3_turnOver 2 (some .int) :: ([.fieldLink RX3 9 "Commutator$Line" "bits" "[I", .fieldLink RX3 19 "Commutator$Line" "head" "I", .methodLink RX3 26 yX3_holds, .instanceMethod yX3_holds, .selects RX3 yX3_holds yX3_holds, .initialized RX3, .code yX3_holds cX3_holds 3 (some .boolean), .methodLink RX3 22 yX3_length, .instanceMethod yX3_length, .selects RX3 yX3_length yX3_length, .code yX3_length cX3_length 1 (some .int), .fieldLink RX3 15 "Commutator$Line" "end" "I"] ++ wsX30)
def wsX3_remove : List Cond := .code yX3_remove cX3_remove 4 none :: ([.fieldLink RX3 19 "Commutator$Line" "head" "I", .fieldLink RX3 9 "Commutator$Line" "bits" "[I", .fieldLink RX3 15 "Commutator$Line" "end" "I", .methodLink RX3 30 arraycopyName, .native arraycopyName, .static arraycopyName, .initialized "java/lang/System", .methodLink RX3 26 yX3_holds, .instanceMethod yX3_holds, .selects RX3 yX3_holds yX3_holds, .initialized RX3, .code yX3_holds cX3_holds 3 (some .boolean), .methodLink RX3 22 yX3_length, .instanceMethod yX3_length, .selects RX3 yX3_length yX3_length, .code yX3_length cX3_length 1 (some .int)] ++ wsX30)
def wsX3_takeFirst : List Cond := .code yX3_takeFirst cX3_takeFirst 2 (some .int) :: ([.fieldLink RX3 9 "Commutator$Line" "bits" "[I", .fieldLink RX3 19 "Commutator$Line" "head" "I", .methodLink RX3 26 yX3_holds, .instanceMethod yX3_holds, .selects RX3 yX3_holds yX3_holds, .initialized RX3, .code yX3_holds cX3_holds 3 (some .boolean), .methodLink RX3 22 yX3_length, .instanceMethod yX3_length, .selects RX3 yX3_length yX3_length, .code yX3_length cX3_length 1 (some .int), .fieldLink RX3 15 "Commutator$Line" "end" "I"] ++ wsX30)
def wsX4_init : List Cond := .code yX4_init cX4_init 7 none :: ([.methodLink RX4 3 objectInit, .instanceMethod objectInit, .code objectInit ⟨#[0xb1]⟩ 1 none, .fieldLink RX4 9 "Commutator$Point" "width" "I", .fieldLink RX4 15 "Commutator$Point" "convention" "I", .fieldLink RX4 18 "Commutator$Point" "period" "I", .fieldLink RX4 21 "Commutator$Point" "twice" "Z", .fieldLink RX4 25 "Commutator$Point" "phase" "I", .fieldLink RX4 28 "Commutator$Point" "offset" "I", .classLink RX4 31 RX6, .instantiable RX6 3, .initialized RX6, .fieldLink RX4 34 "Commutator$Point" "latest" "LCommutator$Reading;", .instanceMethod yX6_init, .code yX6_init cX6_init 1 none, .methodLink RX6 1 objectInit] ++ wsX40 ++ wsX60)
def wsX4_lowest : List Cond := .code yX4_lowest cX4_lowest 1 (some .int) :: ([.fieldLink RX4 15 "Commutator$Point" "convention" "I", .methodLink RX4 38 yX4_signWeight, .instanceMethod yX4_signWeight, .selects RX4 yX4_signWeight yX4_signWeight, .initialized RX4, .code yX4_signWeight cX4_signWeight 1 (some .int), .fieldLink RX4 9 "Commutator$Point" "width" "I"] ++ wsX40)
def wsX4_highest : List Cond := .code yX4_highest cX4_highest 1 (some .int) :: ([.fieldLink RX4 15 "Commutator$Point" "convention" "I", .fieldLink RX4 9 "Commutator$Point" "width" "I", .methodLink RX4 38 yX4_signWeight, .instanceMethod yX4_signWeight, .selects RX4 yX4_signWeight yX4_signWeight, .initialized RX4, .code yX4_signWeight cX4_signWeight 1 (some .int)] ++ wsX40)
def wsX4_encode : List Cond := .code yX4_encode cX4_encode 2 (some .int) :: ([.fieldLink RX4 15 "Commutator$Point" "convention" "I", .fieldLink RX4 9 "Commutator$Point" "width" "I", .methodLink RX4 38 yX4_signWeight, .instanceMethod yX4_signWeight, .selects RX4 yX4_signWeight yX4_signWeight, .initialized RX4, .code yX4_signWeight cX4_signWeight 1 (some .int)] ++ wsX40)
def wsX5_init : List Cond := .code yX5_init cX5_init 1 none :: ([.methodLink RX5 3 objectInit, .instanceMethod objectInit, .code objectInit ⟨#[0xb1]⟩ 1 none, .classLink RX5 9 RX4, .fieldLink RX5 11 "Commutator$PointTable" "rows" "[LCommutator$Point;", .arrayClass .long, .fieldLink RX5 17 "Commutator$PointTable" "usedBits" "[J"] ++ wsX50)
def wsX5_bitsAt : List Cond := .code yX5_bitsAt cX5_bitsAt 5 (some .long) :: ([])
def wsX5_isFree : List Cond := .code yX5_isFree cX5_isFree 6 (some .boolean) :: ([.fieldLink RX5 17 "Commutator$PointTable" "usedBits" "[J"] ++ wsX50)
def wsX5_use : List Cond := .code yX5_use cX5_use 6 none :: ([.fieldLink RX5 17 "Commutator$PointTable" "usedBits" "[J"] ++ wsX50)
def wsX5_add_r1 : List Cond := [Cond.fieldLink RX5 21 "Commutator$PointTable" "count" "I", Cond.fieldLink RX5 11 "Commutator$PointTable" "rows" "[LCommutator$Point;", Cond.classLink RX5 9 RX4, Cond.instantiable RX4 10, Cond.initialized RX4, Cond.methodLink RX5 25 yX5_bitsAt, Cond.static yX5_bitsAt, Cond.initialized RX5, Cond.code yX5_bitsAt cX5_bitsAt 5 (some .long), Cond.methodLink RX5 29 yX5_isFree, Cond.instanceMethod yX5_isFree, Cond.selects RX5 yX5_isFree yX5_isFree, Cond.code yX5_isFree cX5_isFree 6 (some .boolean), Cond.fieldLink RX5 17 "Commutator$PointTable" "usedBits" "[J", Cond.methodLink RX5 33 yX5_use, Cond.instanceMethod yX5_use, Cond.selects RX5 yX5_use yX5_use, Cond.code yX5_use cX5_use 6 none, Cond.methodLink RX5 37 yX4_init, Cond.instanceMethod yX4_init, Cond.code yX4_init cX4_init 7 none, Cond.methodLink RX4 3 objectInit, Cond.instanceMethod objectInit, Cond.code objectInit ⟨#[0xb1]⟩ 1 none]
def wsX5_add_r2 : List Cond := [Cond.fieldLink RX4 9 "Commutator$Point" "width" "I", Cond.fieldLink RX4 15 "Commutator$Point" "convention" "I", Cond.fieldLink RX4 18 "Commutator$Point" "period" "I", Cond.fieldLink RX4 21 "Commutator$Point" "twice" "Z", Cond.fieldLink RX4 25 "Commutator$Point" "phase" "I", Cond.fieldLink RX4 28 "Commutator$Point" "offset" "I", Cond.classLink RX4 31 RX6, Cond.instantiable RX6 3, Cond.initialized RX6, Cond.fieldLink RX4 34 "Commutator$Point" "latest" "LCommutator$Reading;", Cond.instanceMethod yX6_init, Cond.code yX6_init cX6_init 1 none, Cond.methodLink RX6 1 objectInit]
def wsX5_add : List Cond := .code yX5_add cX5_add 10 (some .boolean) :: ((wsX5_add_r1 ++ wsX5_add_r2) ++ wsX50 ++ wsX40 ++ wsX60)
def wsJ13_bitCount_95d88 : List Cond := .code yJ13_bitCount_95d88 cJ13_bitCount_95d88 2 (some .int) :: ([.constantLong RJ13 314 (6148914691236517205), .constantLong RJ13 316 (3689348814741910323), .constantLong RJ13 318 (1085102592571150095)])
def wsX5_spareBits : List Cond := .code yX5_spareBits cX5_spareBits 3 (some .int) :: ([.fieldLink RX5 17 "Commutator$PointTable" "usedBits" "[J", .methodLink RX5 40 yJ13_bitCount_95d88, .static yJ13_bitCount_95d88, .initialized RJ13, .code yJ13_bitCount_95d88 cJ13_bitCount_95d88 2 (some .int), .constantLong RJ13 314 (6148914691236517205), .constantLong RJ13 316 (3689348814741910323), .constantLong RJ13 318 (1085102592571150095)] ++ wsX50)
def wsX7_init : List Cond := .code yX7_init cX7_init 1 none :: ([.methodLink RX7 3 objectInit, .instanceMethod objectInit, .code objectInit ⟨#[0xb1]⟩ 1 none])
def wsX7_packSamples_r1 : List Cond := [Cond.fieldLink RX7 16 "Commutator$Sender" "frame" "J", Cond.methodLink RX7 35 yX5_at, Cond.instanceMethod yX5_at, Cond.selects RX5 yX5_at yX5_at, Cond.initialized RX5, Cond.code yX5_at cX5_at 2 (some (.object "Commutator$Point")), Cond.fieldLink RX5 21 "Commutator$PointTable" "count" "I", Cond.fieldLink RX5 11 "Commutator$PointTable" "rows" "[LCommutator$Point;", Cond.methodLink RX7 39 yX4_isSentIn, Cond.instanceMethod yX4_isSentIn, Cond.selects RX4 yX4_isSentIn yX4_isSentIn, Cond.initialized RX4, Cond.code yX4_isSentIn cX4_isSentIn 2 (some .boolean), Cond.fieldLink RX4 18 "Commutator$Point" "period" "I", Cond.fieldLink RX4 25 "Commutator$Point" "phase" "I", Cond.methodLink RX7 45 yX4_samplesInFrame, Cond.instanceMethod yX4_samplesInFrame, Cond.selects RX4 yX4_samplesInFrame yX4_samplesInFrame, Cond.code yX4_samplesInFrame cX4_samplesInFrame 1 (some .int), Cond.fieldLink RX4 21 "Commutator$Point" "twice" "Z", Cond.methodLink RX7 49 yX4_firstBit, Cond.instanceMethod yX4_firstBit, Cond.selects RX4 yX4_firstBit yX4_firstBit, Cond.code yX4_firstBit cX4_firstBit 2 (some .int)]
def wsX7_packSamples_r2 : List Cond := [Cond.fieldLink RX4 28 "Commutator$Point" "offset" "I", Cond.methodLink RX7 56 yX4_encode, Cond.instanceMethod yX4_encode, Cond.selects RX4 yX4_encode yX4_encode, Cond.code yX4_encode cX4_encode 2 (some .int), Cond.fieldLink RX4 15 "Commutator$Point" "convention" "I", Cond.fieldLink RX4 9 "Commutator$Point" "width" "I", Cond.methodLink RX4 38 yX4_signWeight, Cond.instanceMethod yX4_signWeight, Cond.selects RX4 yX4_signWeight yX4_signWeight, Cond.code yX4_signWeight cX4_signWeight 1 (some .int), Cond.methodLink RX7 59 yX4_shift, Cond.instanceMethod yX4_shift, Cond.selects RX4 yX4_shift yX4_shift, Cond.code yX4_shift cX4_shift 2 (some .int), Cond.methodLink RX4 42 yX4_firstBit]
def wsX7_packSamples : List Cond := .code yX7_packSamples cX7_packSamples 7 none :: ((wsX7_packSamples_r1 ++ wsX7_packSamples_r2) ++ wsX50 ++ wsX70 ++ wsX40)
def wsX7_sendWord_r1 : List Cond := [Cond.fieldLink RX7 9 "Commutator$Sender" "wordsSent" "I", Cond.constant RX7 15 (47104), Cond.fieldLink RX7 16 "Commutator$Sender" "frame" "J", Cond.methodLink RX7 20 yX7_packSamples, Cond.instanceMethod yX7_packSamples, Cond.selects RX7 yX7_packSamples yX7_packSamples, Cond.initialized RX7, Cond.code yX7_packSamples cX7_packSamples 7 none, Cond.methodLink RX7 35 yX5_at, Cond.instanceMethod yX5_at, Cond.selects RX5 yX5_at yX5_at, Cond.initialized RX5, Cond.code yX5_at cX5_at 2 (some (.object "Commutator$Point")), Cond.fieldLink RX5 21 "Commutator$PointTable" "count" "I", Cond.fieldLink RX5 11 "Commutator$PointTable" "rows" "[LCommutator$Point;", Cond.methodLink RX7 39 yX4_isSentIn, Cond.instanceMethod yX4_isSentIn, Cond.selects RX4 yX4_isSentIn yX4_isSentIn, Cond.initialized RX4, Cond.code yX4_isSentIn cX4_isSentIn 2 (some .boolean), Cond.fieldLink RX4 18 "Commutator$Point" "period" "I", Cond.fieldLink RX4 25 "Commutator$Point" "phase" "I", Cond.methodLink RX7 45 yX4_samplesInFrame, Cond.instanceMethod yX4_samplesInFrame]
def wsX7_sendWord_r2 : List Cond := [Cond.selects RX4 yX4_samplesInFrame yX4_samplesInFrame, Cond.code yX4_samplesInFrame cX4_samplesInFrame 1 (some .int), Cond.fieldLink RX4 21 "Commutator$Point" "twice" "Z", Cond.methodLink RX7 49 yX4_firstBit, Cond.instanceMethod yX4_firstBit, Cond.selects RX4 yX4_firstBit yX4_firstBit, Cond.code yX4_firstBit cX4_firstBit 2 (some .int), Cond.fieldLink RX4 28 "Commutator$Point" "offset" "I", Cond.methodLink RX7 56 yX4_encode, Cond.instanceMethod yX4_encode, Cond.selects RX4 yX4_encode yX4_encode, Cond.code yX4_encode cX4_encode 2 (some .int), Cond.fieldLink RX4 15 "Commutator$Point" "convention" "I", Cond.fieldLink RX4 9 "Commutator$Point" "width" "I", Cond.methodLink RX4 38 yX4_signWeight, Cond.instanceMethod yX4_signWeight, Cond.selects RX4 yX4_signWeight yX4_signWeight, Cond.code yX4_signWeight cX4_signWeight 1 (some .int), Cond.methodLink RX7 59 yX4_shift, Cond.instanceMethod yX4_shift, Cond.selects RX4 yX4_shift yX4_shift, Cond.code yX4_shift cX4_shift 2 (some .int), Cond.methodLink RX4 42 yX4_firstBit, Cond.methodLink RX7 24 yX3_append]
def wsX7_sendWord_r3 : List Cond := [Cond.instanceMethod yX3_append, Cond.selects RX3 yX3_append yX3_append, Cond.initialized RX3, Cond.code yX3_append cX3_append 2 none, Cond.fieldLink RX3 15 "Commutator$Line" "end" "I", Cond.fieldLink RX3 9 "Commutator$Line" "bits" "[I"]
def wsX7_sendWord : List Cond := .code yX7_sendWord cX7_sendWord 7 none :: ((wsX7_sendWord_r1 ++ (wsX7_sendWord_r2 ++ wsX7_sendWord_r3)) ++ wsX70 ++ wsX50 ++ wsX40 ++ wsX30)
def wsX8_init : List Cond := .code yX8_init cX8_init 1 none :: ([.methodLink RX8 3 objectInit, .instanceMethod objectInit, .code objectInit ⟨#[0xb1]⟩ 1 none, .fieldLink RX8 9 "Commutator$Synchroniser" "mode" "I", .arrayClass .int, .fieldLink RX8 15 "Commutator$Synchroniser" "syncWords" "[I"] ++ wsX80)
def wsX8_latestWord : List Cond := .code yX8_latestWord cX8_latestWord 1 (some .int) :: ([.fieldLink RX8 19 "Commutator$Synchroniser" "latest" "J"] ++ wsX80)
def wsX8_isSyncWord : List Cond := .code yX8_isSyncWord cX8_isSyncWord 1 (some .boolean) :: ([.methodLink RX8 39 yX8_latestWord, .instanceMethod yX8_latestWord, .selects RX8 yX8_latestWord yX8_latestWord, .initialized RX8, .code yX8_latestWord cX8_latestWord 1 (some .int), .fieldLink RX8 19 "Commutator$Synchroniser" "latest" "J"] ++ wsX80)
def wsX8_search : List Cond := .code yX8_search cX8_search 1 none :: ([.fieldLink RX8 9 "Commutator$Synchroniser" "mode" "I", .fieldLink RX8 43 "Commutator$Synchroniser" "matchCount" "I", .fieldLink RX8 33 "Commutator$Synchroniser" "bitsOfFrame" "I", .methodLink RX8 26 yX8_isSyncWord, .instanceMethod yX8_isSyncWord, .selects RX8 yX8_isSyncWord yX8_isSyncWord, .initialized RX8, .code yX8_isSyncWord cX8_isSyncWord 1 (some .boolean), .methodLink RX8 39 yX8_latestWord, .instanceMethod yX8_latestWord, .selects RX8 yX8_latestWord yX8_latestWord, .code yX8_latestWord cX8_latestWord 1 (some .int), .fieldLink RX8 19 "Commutator$Synchroniser" "latest" "J"] ++ wsX80)
def wsX8_check : List Cond := .code yX8_check cX8_check 1 none :: ([.fieldLink RX8 9 "Commutator$Synchroniser" "mode" "I", .fieldLink RX8 43 "Commutator$Synchroniser" "matchCount" "I", .fieldLink RX8 52 "Commutator$Synchroniser" "missCount" "I", .methodLink RX8 26 yX8_isSyncWord, .instanceMethod yX8_isSyncWord, .selects RX8 yX8_isSyncWord yX8_isSyncWord, .initialized RX8, .code yX8_isSyncWord cX8_isSyncWord 1 (some .boolean), .methodLink RX8 39 yX8_latestWord, .instanceMethod yX8_latestWord, .selects RX8 yX8_latestWord yX8_latestWord, .code yX8_latestWord cX8_latestWord 1 (some .int), .fieldLink RX8 19 "Commutator$Synchroniser" "latest" "J"] ++ wsX80)
def wsJ6_bitCount_0f7a4 : List Cond := .code yJ6_bitCount_0f7a4 cJ6_bitCount_0f7a4 1 (some .int) :: ([.constant RJ6 265 (1431655765), .constant RJ6 266 (858993459), .constant RJ6 267 (252645135)])
def wsX8_keepLock : List Cond := .code yX8_keepLock cX8_keepLock 1 none :: ([.fieldLink RX8 52 "Commutator$Synchroniser" "missCount" "I", .fieldLink RX8 9 "Commutator$Synchroniser" "mode" "I", .methodLink RX8 39 yX8_latestWord, .instanceMethod yX8_latestWord, .selects RX8 yX8_latestWord yX8_latestWord, .initialized RX8, .code yX8_latestWord cX8_latestWord 1 (some .int), .fieldLink RX8 19 "Commutator$Synchroniser" "latest" "J", .methodLink RX8 55 yJ6_bitCount_0f7a4, .static yJ6_bitCount_0f7a4, .initialized RJ6, .code yJ6_bitCount_0f7a4 cJ6_bitCount_0f7a4 1 (some .int), .constant RJ6 265 (1431655765), .constant RJ6 266 (858993459), .constant RJ6 267 (252645135)] ++ wsX80)
def wsX8_judgeSyncWord_r1 : List Cond := [Cond.fieldLink RX8 9 "Commutator$Synchroniser" "mode" "I", Cond.methodLink RX8 46 yX8_check, Cond.instanceMethod yX8_check, Cond.selects RX8 yX8_check yX8_check, Cond.initialized RX8, Cond.code yX8_check cX8_check 1 none, Cond.fieldLink RX8 43 "Commutator$Synchroniser" "matchCount" "I", Cond.fieldLink RX8 52 "Commutator$Synchroniser" "missCount" "I", Cond.methodLink RX8 26 yX8_isSyncWord, Cond.instanceMethod yX8_isSyncWord, Cond.selects RX8 yX8_isSyncWord yX8_isSyncWord, Cond.code yX8_isSyncWord cX8_isSyncWord 1 (some .boolean), Cond.methodLink RX8 39 yX8_latestWord, Cond.instanceMethod yX8_latestWord, Cond.selects RX8 yX8_latestWord yX8_latestWord, Cond.code yX8_latestWord cX8_latestWord 1 (some .int), Cond.fieldLink RX8 19 "Commutator$Synchroniser" "latest" "J", Cond.methodLink RX8 49 yX8_keepLock, Cond.instanceMethod yX8_keepLock, Cond.selects RX8 yX8_keepLock yX8_keepLock, Cond.code yX8_keepLock cX8_keepLock 1 none, Cond.methodLink RX8 55 yJ6_bitCount_0f7a4, Cond.static yJ6_bitCount_0f7a4, Cond.initialized RJ6]
def wsX8_judgeSyncWord_r2 : List Cond := [Cond.code yJ6_bitCount_0f7a4 cJ6_bitCount_0f7a4 1 (some .int), Cond.constant RJ6 265 (1431655765), Cond.constant RJ6 266 (858993459), Cond.constant RJ6 267 (252645135)]
def wsX8_judgeSyncWord : List Cond := .code yX8_judgeSyncWord cX8_judgeSyncWord 1 none :: ((wsX8_judgeSyncWord_r1 ++ wsX8_judgeSyncWord_r2) ++ wsX80)
def wsX8_take_r1 : List Cond := [Cond.fieldLink RX8 19 "Commutator$Synchroniser" "latest" "J", Cond.fieldLink RX8 23 "Commutator$Synchroniser" "takenBits" "I", Cond.fieldLink RX8 15 "Commutator$Synchroniser" "syncWords" "[I", Cond.fieldLink RX8 9 "Commutator$Synchroniser" "mode" "I", Cond.fieldLink RX8 33 "Commutator$Synchroniser" "bitsOfFrame" "I", Cond.methodLink RX8 26 yX8_isSyncWord, Cond.instanceMethod yX8_isSyncWord, Cond.selects RX8 yX8_isSyncWord yX8_isSyncWord, Cond.initialized RX8, Cond.code yX8_isSyncWord cX8_isSyncWord 1 (some .boolean), Cond.methodLink RX8 39 yX8_latestWord, Cond.instanceMethod yX8_latestWord, Cond.selects RX8 yX8_latestWord yX8_latestWord, Cond.code yX8_latestWord cX8_latestWord 1 (some .int), Cond.methodLink RX8 30 yX8_search, Cond.instanceMethod yX8_search, Cond.selects RX8 yX8_search yX8_search, Cond.code yX8_search cX8_search 1 none, Cond.fieldLink RX8 43 "Commutator$Synchroniser" "matchCount" "I", Cond.methodLink RX8 36 yX8_judgeSyncWord, Cond.instanceMethod yX8_judgeSyncWord, Cond.selects RX8 yX8_judgeSyncWord yX8_judgeSyncWord, Cond.code yX8_judgeSyncWord cX8_judgeSyncWord 1 none, Cond.methodLink RX8 46 yX8_check]
def wsX8_take_r2 : List Cond := [Cond.instanceMethod yX8_check, Cond.selects RX8 yX8_check yX8_check, Cond.code yX8_check cX8_check 1 none, Cond.fieldLink RX8 52 "Commutator$Synchroniser" "missCount" "I", Cond.methodLink RX8 49 yX8_keepLock, Cond.instanceMethod yX8_keepLock, Cond.selects RX8 yX8_keepLock yX8_keepLock, Cond.code yX8_keepLock cX8_keepLock 1 none, Cond.methodLink RX8 55 yJ6_bitCount_0f7a4, Cond.static yJ6_bitCount_0f7a4, Cond.initialized RJ6, Cond.code yJ6_bitCount_0f7a4 cJ6_bitCount_0f7a4 1 (some .int), Cond.constant RJ6 265 (1431655765), Cond.constant RJ6 266 (858993459), Cond.constant RJ6 267 (252645135)]
def wsX8_take : List Cond := .code yX8_take cX8_take 2 (some .boolean) :: ((wsX8_take_r1 ++ wsX8_take_r2) ++ wsX80)
def wsX8_syncWordsAt : List Cond := .code yX8_syncWordsAt cX8_syncWordsAt 2 (some .int) :: ([.fieldLink RX8 15 "Commutator$Synchroniser" "syncWords" "[I"] ++ wsX80)
def wsX9_init_r1 : List Cond := [Cond.methodLink RX9 1 objectInit, Cond.instanceMethod objectInit, Cond.code objectInit ⟨#[0xb1]⟩ 1 none, Cond.classLink RX9 7 RX5, Cond.instantiable RX5 3, Cond.initialized RX5, Cond.fieldLink RX9 10 "Commutator" "table" "LCommutator$PointTable;", Cond.classLink RX9 16 RX3, Cond.instantiable RX3 3, Cond.initialized RX3, Cond.fieldLink RX9 19 "Commutator" "line" "LCommutator$Line;", Cond.classLink RX9 23 RX7, Cond.instantiable RX7 2, Cond.initialized RX7, Cond.fieldLink RX9 26 "Commutator" "sender" "LCommutator$Sender;", Cond.classLink RX9 30 RX8, Cond.instantiable RX8 7, Cond.initialized RX8, Cond.fieldLink RX9 33 "Commutator" "synchroniser" "LCommutator$Synchroniser;", Cond.classLink RX9 37 RX0, Cond.instantiable RX0 5, Cond.initialized RX0, Cond.fieldLink RX9 40 "Commutator" "decoder" "LCommutator$Decoder;", Cond.classLink RX9 44 RX2]
def wsX9_init_r2 : List Cond := [Cond.instantiable RX2 1, Cond.initialized RX2, Cond.fieldLink RX9 47 "Commutator" "derivedTable" "LCommutator$DerivedTable;", Cond.instanceMethod yX5_init, Cond.code yX5_init cX5_init 1 none, Cond.methodLink RX5 3 objectInit, Cond.classLink RX5 9 RX4, Cond.fieldLink RX5 11 "Commutator$PointTable" "rows" "[LCommutator$Point;", Cond.arrayClass .long, Cond.fieldLink RX5 17 "Commutator$PointTable" "usedBits" "[J", Cond.instanceMethod yX3_init, Cond.code yX3_init cX3_init 1 none, Cond.methodLink RX3 3 objectInit, Cond.arrayClass .int, Cond.fieldLink RX3 9 "Commutator$Line" "bits" "[I", Cond.instanceMethod yX7_init, Cond.code yX7_init cX7_init 1 none, Cond.methodLink RX7 3 objectInit, Cond.instanceMethod yX8_init, Cond.code yX8_init cX8_init 1 none, Cond.methodLink RX8 3 objectInit, Cond.fieldLink RX8 9 "Commutator$Synchroniser" "mode" "I", Cond.fieldLink RX8 15 "Commutator$Synchroniser" "syncWords" "[I", Cond.instanceMethod yX0_init]
def wsX9_init_r3 : List Cond := [Cond.code yX0_init cX0_init 1 none, Cond.methodLink RX0 3 objectInit, Cond.methodLink RX9 46 yX2_init, Cond.instanceMethod yX2_init, Cond.code yX2_init cX2_init 2 none, Cond.methodLink RX2 3 objectInit, Cond.classLink RX2 9 RX1, Cond.fieldLink RX2 11 "Commutator$DerivedTable" "rows" "[LCommutator$Derived;", Cond.instantiable RX1 5, Cond.initialized RX1, Cond.instanceMethod yX1_init, Cond.code yX1_init cX1_init 1 none, Cond.methodLink RX1 1 objectInit, Cond.classLink RX1 7 RX6, Cond.instantiable RX6 3, Cond.initialized RX6, Cond.fieldLink RX1 10 "Commutator$Derived" "result" "LCommutator$Reading;", Cond.instanceMethod yX6_init, Cond.code yX6_init cX6_init 1 none, Cond.methodLink RX6 1 objectInit]
def wsX9_init : List Cond := .code yX9_init cX9_init 1 none :: ((wsX9_init_r1 ++ (wsX9_init_r2 ++ wsX9_init_r3)) ++ wsX50 ++ wsX90 ++ wsX30 ++ wsX70 ++ wsX80 ++ wsX00 ++ wsX20 ++ wsX10 ++ wsX60)
def wsX9_isPointAllowed : List Cond := .code yX9_isPointAllowed cX9_isPointAllowed 5 (some .boolean) :: ([])
def wsX9_addPoint_r1 : List Cond := [Cond.classLink RX9 55 "java/lang/IllegalArgumentException", Cond.initialized "java/lang/IllegalArgumentException", Cond.classLink RX9 65 "java/lang/IllegalStateException", Cond.initialized "java/lang/IllegalStateException", Cond.fieldLink RX9 26 "Commutator" "sender" "LCommutator$Sender;", Cond.fieldLink RX9 10 "Commutator" "table" "LCommutator$PointTable;", Cond.methodLink RX9 51 yX9_isPointAllowed, Cond.static yX9_isPointAllowed, Cond.initialized RX9, Cond.code yX9_isPointAllowed cX9_isPointAllowed 5 (some .boolean), Cond.methodLink RX9 62 yX5_add, Cond.instanceMethod yX5_add, Cond.selects RX5 yX5_add yX5_add, Cond.initialized RX5, Cond.code yX5_add cX5_add 10 (some .boolean), Cond.fieldLink RX5 21 "Commutator$PointTable" "count" "I", Cond.fieldLink RX5 11 "Commutator$PointTable" "rows" "[LCommutator$Point;", Cond.classLink RX5 9 RX4, Cond.instantiable RX4 10, Cond.initialized RX4, Cond.methodLink RX5 25 yX5_bitsAt, Cond.static yX5_bitsAt, Cond.code yX5_bitsAt cX5_bitsAt 5 (some .long), Cond.methodLink RX5 29 yX5_isFree]
def wsX9_addPoint_r2 : List Cond := [Cond.instanceMethod yX5_isFree, Cond.selects RX5 yX5_isFree yX5_isFree, Cond.code yX5_isFree cX5_isFree 6 (some .boolean), Cond.fieldLink RX5 17 "Commutator$PointTable" "usedBits" "[J", Cond.methodLink RX5 33 yX5_use, Cond.instanceMethod yX5_use, Cond.selects RX5 yX5_use yX5_use, Cond.code yX5_use cX5_use 6 none, Cond.methodLink RX5 37 yX4_init, Cond.instanceMethod yX4_init, Cond.code yX4_init cX4_init 7 none, Cond.methodLink RX4 3 objectInit, Cond.instanceMethod objectInit, Cond.code objectInit ⟨#[0xb1]⟩ 1 none, Cond.fieldLink RX4 9 "Commutator$Point" "width" "I", Cond.fieldLink RX4 15 "Commutator$Point" "convention" "I", Cond.fieldLink RX4 18 "Commutator$Point" "period" "I", Cond.fieldLink RX4 21 "Commutator$Point" "twice" "Z", Cond.fieldLink RX4 25 "Commutator$Point" "phase" "I", Cond.fieldLink RX4 28 "Commutator$Point" "offset" "I", Cond.classLink RX4 31 RX6, Cond.instantiable RX6 3, Cond.initialized RX6, Cond.fieldLink RX4 34 "Commutator$Point" "latest" "LCommutator$Reading;"]
def wsX9_addPoint_r3 : List Cond := [Cond.instanceMethod yX6_init, Cond.code yX6_init cX6_init 1 none, Cond.methodLink RX6 1 objectInit]
def wsX9_addPoint : List Cond := .code yX9_addPoint cX9_addPoint 5 (some .int) :: ((wsX9_addPoint_r1 ++ (wsX9_addPoint_r2 ++ wsX9_addPoint_r3)) ++ wsX90 ++ wsX70 ++ wsX50 ++ wsX40 ++ wsX60 ++ (vx_at0 RX9 57 "java/lang/IllegalArgumentException" ["java/lang/RuntimeException", "java/lang/Exception"]).filter goodWord ++ (vx_at0 RX9 67 "java/lang/IllegalStateException" ["java/lang/RuntimeException", "java/lang/Exception"]).filter goodWord)
def wsX9_points : List Cond := .code yX9_points cX9_points 1 (some .int) :: ([.fieldLink RX9 10 "Commutator" "table" "LCommutator$PointTable;"] ++ wsX90 ++ wsX50)
def wsX9_existingPoint : List Cond := .code yX9_existingPoint cX9_existingPoint 3 (some (.object "Commutator$Point")) :: ([.classLink RX9 107 "java/lang/IndexOutOfBoundsException", .initialized "java/lang/IndexOutOfBoundsException", .fieldLink RX9 10 "Commutator" "table" "LCommutator$PointTable;", .methodLink RX9 202 yX5_at, .instanceMethod yX5_at, .selects RX5 yX5_at yX5_at, .initialized RX5, .code yX5_at cX5_at 2 (some (.object "Commutator$Point")), .fieldLink RX5 21 "Commutator$PointTable" "count" "I", .fieldLink RX5 11 "Commutator$PointTable" "rows" "[LCommutator$Point;"] ++ wsX90 ++ wsX50 ++ (vx_at0 RX9 109 "java/lang/IndexOutOfBoundsException" ["java/lang/RuntimeException", "java/lang/Exception"]).filter goodWord)
def wsX9_place : List Cond := .code yX9_place cX9_place 3 (some .int) :: ([.methodLink RX9 71 yX9_existingPoint, .instanceMethod yX9_existingPoint, .selects RX9 yX9_existingPoint yX9_existingPoint, .initialized RX9, .code yX9_existingPoint cX9_existingPoint 3 (some (.object "Commutator$Point")), .classLink RX9 107 "java/lang/IndexOutOfBoundsException", .initialized "java/lang/IndexOutOfBoundsException", .fieldLink RX9 10 "Commutator" "table" "LCommutator$PointTable;", .methodLink RX9 202 yX5_at, .instanceMethod yX5_at, .selects RX5 yX5_at yX5_at, .initialized RX5, .code yX5_at cX5_at 2 (some (.object "Commutator$Point")), .fieldLink RX5 21 "Commutator$PointTable" "count" "I", .fieldLink RX5 11 "Commutator$PointTable" "rows" "[LCommutator$Point;"] ++ wsX40 ++ wsX90 ++ wsX50 ++ (vx_at0 RX9 109 "java/lang/IndexOutOfBoundsException" ["java/lang/RuntimeException", "java/lang/Exception"]).filter goodWord)
def wsX9_spare : List Cond := .code yX9_spare cX9_spare 1 (some .int) :: ([.fieldLink RX9 10 "Commutator" "table" "LCommutator$PointTable;", .methodLink RX9 83 yX5_spareBits, .instanceMethod yX5_spareBits, .selects RX5 yX5_spareBits yX5_spareBits, .initialized RX5, .code yX5_spareBits cX5_spareBits 3 (some .int), .fieldLink RX5 17 "Commutator$PointTable" "usedBits" "[J", .methodLink RX5 40 yJ13_bitCount_95d88, .static yJ13_bitCount_95d88, .initialized RJ13, .code yJ13_bitCount_95d88 cJ13_bitCount_95d88 2 (some .int), .constantLong RJ13 314 (6148914691236517205), .constantLong RJ13 316 (3689348814741910323), .constantLong RJ13 318 (1085102592571150095)] ++ wsX90 ++ wsX50)
def wsX9_put_r1 : List Cond := [Cond.classLink RX9 55 "java/lang/IllegalArgumentException", Cond.initialized "java/lang/IllegalArgumentException", Cond.methodLink RX9 71 yX9_existingPoint, Cond.instanceMethod yX9_existingPoint, Cond.selects RX9 yX9_existingPoint yX9_existingPoint, Cond.initialized RX9, Cond.code yX9_existingPoint cX9_existingPoint 3 (some (.object "Commutator$Point")), Cond.classLink RX9 107 "java/lang/IndexOutOfBoundsException", Cond.initialized "java/lang/IndexOutOfBoundsException", Cond.fieldLink RX9 10 "Commutator" "table" "LCommutator$PointTable;", Cond.methodLink RX9 202 yX5_at, Cond.instanceMethod yX5_at, Cond.selects RX5 yX5_at yX5_at, Cond.initialized RX5, Cond.code yX5_at cX5_at 2 (some (.object "Commutator$Point")), Cond.fieldLink RX5 21 "Commutator$PointTable" "count" "I", Cond.fieldLink RX5 11 "Commutator$PointTable" "rows" "[LCommutator$Point;", Cond.methodLink RX9 87 yX4_lowest, Cond.instanceMethod yX4_lowest, Cond.selects RX4 yX4_lowest yX4_lowest, Cond.initialized RX4, Cond.code yX4_lowest cX4_lowest 1 (some .int), Cond.fieldLink RX4 15 "Commutator$Point" "convention" "I", Cond.methodLink RX4 38 yX4_signWeight]
def wsX9_put_r2 : List Cond := [Cond.instanceMethod yX4_signWeight, Cond.selects RX4 yX4_signWeight yX4_signWeight, Cond.code yX4_signWeight cX4_signWeight 1 (some .int), Cond.fieldLink RX4 9 "Commutator$Point" "width" "I", Cond.methodLink RX9 90 yX4_highest, Cond.instanceMethod yX4_highest, Cond.selects RX4 yX4_highest yX4_highest, Cond.code yX4_highest cX4_highest 1 (some .int)]
def wsX9_put : List Cond := .code yX9_put cX9_put 5 (some .int) :: ((wsX9_put_r1 ++ wsX9_put_r2) ++ wsX40 ++ wsX90 ++ wsX50 ++ (vx_at0 RX9 57 "java/lang/IllegalArgumentException" ["java/lang/RuntimeException", "java/lang/Exception"]).filter goodWord ++ (vx_at0 RX9 109 "java/lang/IndexOutOfBoundsException" ["java/lang/RuntimeException", "java/lang/Exception"]).filter goodWord)
def wsX9_send_r1 : List Cond := [Cond.classLink RX9 55 "java/lang/IllegalArgumentException", Cond.initialized "java/lang/IllegalArgumentException", Cond.classLink RX9 65 "java/lang/IllegalStateException", Cond.initialized "java/lang/IllegalStateException", Cond.fieldLink RX9 26 "Commutator" "sender" "LCommutator$Sender;", Cond.fieldLink RX9 10 "Commutator" "table" "LCommutator$PointTable;", Cond.fieldLink RX9 19 "Commutator" "line" "LCommutator$Line;", Cond.methodLink RX9 96 yX7_sendWord, Cond.instanceMethod yX7_sendWord, Cond.selects RX7 yX7_sendWord yX7_sendWord, Cond.initialized RX7, Cond.code yX7_sendWord cX7_sendWord 7 none, Cond.fieldLink RX7 9 "Commutator$Sender" "wordsSent" "I", Cond.constant RX7 15 (47104), Cond.fieldLink RX7 16 "Commutator$Sender" "frame" "J", Cond.methodLink RX7 20 yX7_packSamples, Cond.instanceMethod yX7_packSamples, Cond.selects RX7 yX7_packSamples yX7_packSamples, Cond.code yX7_packSamples cX7_packSamples 7 none, Cond.methodLink RX7 35 yX5_at, Cond.instanceMethod yX5_at, Cond.selects RX5 yX5_at yX5_at, Cond.initialized RX5, Cond.code yX5_at cX5_at 2 (some (.object "Commutator$Point"))]
def wsX9_send_r2 : List Cond := [Cond.fieldLink RX5 21 "Commutator$PointTable" "count" "I", Cond.fieldLink RX5 11 "Commutator$PointTable" "rows" "[LCommutator$Point;", Cond.methodLink RX7 39 yX4_isSentIn, Cond.instanceMethod yX4_isSentIn, Cond.selects RX4 yX4_isSentIn yX4_isSentIn, Cond.initialized RX4, Cond.code yX4_isSentIn cX4_isSentIn 2 (some .boolean), Cond.fieldLink RX4 18 "Commutator$Point" "period" "I", Cond.fieldLink RX4 25 "Commutator$Point" "phase" "I", Cond.methodLink RX7 45 yX4_samplesInFrame, Cond.instanceMethod yX4_samplesInFrame, Cond.selects RX4 yX4_samplesInFrame yX4_samplesInFrame, Cond.code yX4_samplesInFrame cX4_samplesInFrame 1 (some .int), Cond.fieldLink RX4 21 "Commutator$Point" "twice" "Z", Cond.methodLink RX7 49 yX4_firstBit, Cond.instanceMethod yX4_firstBit, Cond.selects RX4 yX4_firstBit yX4_firstBit, Cond.code yX4_firstBit cX4_firstBit 2 (some .int), Cond.fieldLink RX4 28 "Commutator$Point" "offset" "I", Cond.methodLink RX7 56 yX4_encode, Cond.instanceMethod yX4_encode, Cond.selects RX4 yX4_encode yX4_encode, Cond.code yX4_encode cX4_encode 2 (some .int), Cond.fieldLink RX4 15 "Commutator$Point" "convention" "I"]
def wsX9_send_r3 : List Cond := [Cond.fieldLink RX4 9 "Commutator$Point" "width" "I", Cond.methodLink RX4 38 yX4_signWeight, Cond.instanceMethod yX4_signWeight, Cond.selects RX4 yX4_signWeight yX4_signWeight, Cond.code yX4_signWeight cX4_signWeight 1 (some .int), Cond.methodLink RX7 59 yX4_shift, Cond.instanceMethod yX4_shift, Cond.selects RX4 yX4_shift yX4_shift, Cond.code yX4_shift cX4_shift 2 (some .int), Cond.methodLink RX4 42 yX4_firstBit, Cond.methodLink RX7 24 yX3_append, Cond.instanceMethod yX3_append, Cond.selects RX3 yX3_append yX3_append, Cond.initialized RX3, Cond.code yX3_append cX3_append 2 none, Cond.fieldLink RX3 15 "Commutator$Line" "end" "I", Cond.fieldLink RX3 9 "Commutator$Line" "bits" "[I", Cond.methodLink RX9 100 yX3_length, Cond.instanceMethod yX3_length, Cond.selects RX3 yX3_length yX3_length, Cond.code yX3_length cX3_length 1 (some .int), Cond.fieldLink RX3 19 "Commutator$Line" "head" "I"]
def wsX9_send : List Cond := .code yX9_send cX9_send 3 (some .int) :: ((wsX9_send_r1 ++ (wsX9_send_r2 ++ wsX9_send_r3)) ++ wsX90 ++ wsX70 ++ wsX50 ++ wsX40 ++ wsX30 ++ (vx_at0 RX9 57 "java/lang/IllegalArgumentException" ["java/lang/RuntimeException", "java/lang/Exception"]).filter goodWord ++ (vx_at0 RX9 67 "java/lang/IllegalStateException" ["java/lang/RuntimeException", "java/lang/Exception"]).filter goodWord)
def wsX9_sent : List Cond := .code yX9_sent cX9_sent 1 (some .int) :: ([.fieldLink RX9 26 "Commutator" "sender" "LCommutator$Sender;"] ++ wsX90 ++ wsX70)
def wsX9_onLine : List Cond := .code yX9_onLine cX9_onLine 1 (some .int) :: ([.fieldLink RX9 19 "Commutator" "line" "LCommutator$Line;", .methodLink RX9 100 yX3_length, .instanceMethod yX3_length, .selects RX3 yX3_length yX3_length, .initialized RX3, .code yX3_length cX3_length 1 (some .int), .fieldLink RX3 15 "Commutator$Line" "end" "I", .fieldLink RX3 19 "Commutator$Line" "head" "I"] ++ wsX90 ++ wsX30)
def wsX9_bit : List Cond := .code yX9_bit cX9_bit 2 (some .int) :: ([.classLink RX9 107 "java/lang/IndexOutOfBoundsException", .initialized "java/lang/IndexOutOfBoundsException", .fieldLink RX9 19 "Commutator" "line" "LCommutator$Line;", .methodLink RX9 103 yX3_holds, .instanceMethod yX3_holds, .selects RX3 yX3_holds yX3_holds, .initialized RX3, .code yX3_holds cX3_holds 3 (some .boolean), .methodLink RX3 22 yX3_length, .instanceMethod yX3_length, .selects RX3 yX3_length yX3_length, .code yX3_length cX3_length 1 (some .int), .fieldLink RX3 15 "Commutator$Line" "end" "I", .fieldLink RX3 19 "Commutator$Line" "head" "I", .methodLink RX9 110 yX3_look, .instanceMethod yX3_look, .selects RX3 yX3_look yX3_look, .code yX3_look cX3_look 2 (some .int), .fieldLink RX3 9 "Commutator$Line" "bits" "[I", .methodLink RX3 26 yX3_holds] ++ wsX90 ++ wsX30 ++ (vx_at0 RX9 109 "java/lang/IndexOutOfBoundsException" ["java/lang/RuntimeException", "java/lang/Exception"]).filter goodWord)
def wsX9_flip : List Cond := .code yX9_flip cX9_flip 2 (some .int) :: ([.classLink RX9 107 "java/lang/IndexOutOfBoundsException", .initialized "java/lang/IndexOutOfBoundsException", .fieldLink RX9 19 "Commutator" "line" "LCommutator$Line;", .methodLink RX9 103 yX3_holds, .instanceMethod yX3_holds, .selects RX3 yX3_holds yX3_holds, .initialized RX3, .code yX3_holds cX3_holds 3 (some .boolean), .methodLink RX3 22 yX3_length, .instanceMethod yX3_length, .selects RX3 yX3_length yX3_length, .code yX3_length cX3_length 1 (some .int), .fieldLink RX3 15 "Commutator$Line" "end" "I", .fieldLink RX3 19 "Commutator$Line" "head" "I", .methodLink RX9 114 yX3_turnOver, .instanceMethod yX3_turnOver, .selects RX3 yX3_turnOver yX3_turnOver, .code yX3_turnOver cX3_turnOver 2 (some .int), .fieldLink RX3 9 "Commutator$Line" "bits" "[I", .methodLink RX3 26 yX3_holds] ++ wsX90 ++ wsX30 ++ (vx_at0 RX9 109 "java/lang/IndexOutOfBoundsException" ["java/lang/RuntimeException", "java/lang/Exception"]).filter goodWord)
def wsX9_cut_r1 : List Cond := [Cond.classLink RX9 55 "java/lang/IllegalArgumentException", Cond.initialized "java/lang/IllegalArgumentException", Cond.classLink RX9 107 "java/lang/IndexOutOfBoundsException", Cond.initialized "java/lang/IndexOutOfBoundsException", Cond.fieldLink RX9 19 "Commutator" "line" "LCommutator$Line;", Cond.methodLink RX9 103 yX3_holds, Cond.instanceMethod yX3_holds, Cond.selects RX3 yX3_holds yX3_holds, Cond.initialized RX3, Cond.code yX3_holds cX3_holds 3 (some .boolean), Cond.methodLink RX3 22 yX3_length, Cond.instanceMethod yX3_length, Cond.selects RX3 yX3_length yX3_length, Cond.code yX3_length cX3_length 1 (some .int), Cond.fieldLink RX3 15 "Commutator$Line" "end" "I", Cond.fieldLink RX3 19 "Commutator$Line" "head" "I", Cond.methodLink RX9 117 yX3_remove, Cond.instanceMethod yX3_remove, Cond.selects RX3 yX3_remove yX3_remove, Cond.code yX3_remove cX3_remove 4 none, Cond.fieldLink RX3 9 "Commutator$Line" "bits" "[I", Cond.methodLink RX3 30 arraycopyName, Cond.native arraycopyName, Cond.static arraycopyName]
def wsX9_cut_r2 : List Cond := [Cond.initialized "java/lang/System", Cond.methodLink RX3 26 yX3_holds, Cond.methodLink RX9 100 yX3_length]
def wsX9_cut : List Cond := .code yX9_cut cX9_cut 3 (some .int) :: ((wsX9_cut_r1 ++ wsX9_cut_r2) ++ wsX90 ++ wsX30 ++ (vx_at0 RX9 57 "java/lang/IllegalArgumentException" ["java/lang/RuntimeException", "java/lang/Exception"]).filter goodWord ++ (vx_at0 RX9 109 "java/lang/IndexOutOfBoundsException" ["java/lang/RuntimeException", "java/lang/Exception"]).filter goodWord)
def wsX9_receive_r1 : List Cond := [Cond.classLink RX9 55 "java/lang/IllegalArgumentException", Cond.initialized "java/lang/IllegalArgumentException", Cond.fieldLink RX9 40 "Commutator" "decoder" "LCommutator$Decoder;", Cond.fieldLink RX9 19 "Commutator" "line" "LCommutator$Line;", Cond.methodLink RX9 124 Lib.Math.min.name, Cond.static Lib.Math.min.name, Cond.initialized "java/lang/Math", Cond.code Lib.Math.min.name Lib.Math.min.code 2 (some .int), Cond.fieldLink RX9 33 "Commutator" "synchroniser" "LCommutator$Synchroniser;", Cond.fieldLink RX9 10 "Commutator" "table" "LCommutator$PointTable;", Cond.methodLink RX9 100 yX3_length, Cond.instanceMethod yX3_length, Cond.selects RX3 yX3_length yX3_length, Cond.initialized RX3, Cond.code yX3_length cX3_length 1 (some .int), Cond.fieldLink RX3 15 "Commutator$Line" "end" "I", Cond.fieldLink RX3 19 "Commutator$Line" "head" "I", Cond.methodLink RX9 130 yX3_takeFirst, Cond.instanceMethod yX3_takeFirst, Cond.selects RX3 yX3_takeFirst yX3_takeFirst, Cond.code yX3_takeFirst cX3_takeFirst 2 (some .int), Cond.fieldLink RX3 9 "Commutator$Line" "bits" "[I", Cond.methodLink RX3 26 yX3_holds, Cond.instanceMethod yX3_holds]
def wsX9_receive_r2 : List Cond := [Cond.selects RX3 yX3_holds yX3_holds, Cond.code yX3_holds cX3_holds 3 (some .boolean), Cond.methodLink RX3 22 yX3_length, Cond.methodLink RX9 133 yX8_take, Cond.instanceMethod yX8_take, Cond.selects RX8 yX8_take yX8_take, Cond.initialized RX8, Cond.code yX8_take cX8_take 2 (some .boolean), Cond.fieldLink RX8 19 "Commutator$Synchroniser" "latest" "J", Cond.fieldLink RX8 23 "Commutator$Synchroniser" "takenBits" "I", Cond.fieldLink RX8 15 "Commutator$Synchroniser" "syncWords" "[I", Cond.fieldLink RX8 9 "Commutator$Synchroniser" "mode" "I", Cond.fieldLink RX8 33 "Commutator$Synchroniser" "bitsOfFrame" "I", Cond.methodLink RX8 26 yX8_isSyncWord, Cond.instanceMethod yX8_isSyncWord, Cond.selects RX8 yX8_isSyncWord yX8_isSyncWord, Cond.code yX8_isSyncWord cX8_isSyncWord 1 (some .boolean), Cond.methodLink RX8 39 yX8_latestWord, Cond.instanceMethod yX8_latestWord, Cond.selects RX8 yX8_latestWord yX8_latestWord, Cond.code yX8_latestWord cX8_latestWord 1 (some .int), Cond.methodLink RX8 30 yX8_search, Cond.instanceMethod yX8_search, Cond.selects RX8 yX8_search yX8_search]
def wsX9_receive_r3 : List Cond := [Cond.code yX8_search cX8_search 1 none, Cond.fieldLink RX8 43 "Commutator$Synchroniser" "matchCount" "I", Cond.methodLink RX8 36 yX8_judgeSyncWord, Cond.instanceMethod yX8_judgeSyncWord, Cond.selects RX8 yX8_judgeSyncWord yX8_judgeSyncWord, Cond.code yX8_judgeSyncWord cX8_judgeSyncWord 1 none, Cond.methodLink RX8 46 yX8_check, Cond.instanceMethod yX8_check, Cond.selects RX8 yX8_check yX8_check, Cond.code yX8_check cX8_check 1 none, Cond.fieldLink RX8 52 "Commutator$Synchroniser" "missCount" "I", Cond.methodLink RX8 49 yX8_keepLock, Cond.instanceMethod yX8_keepLock, Cond.selects RX8 yX8_keepLock yX8_keepLock, Cond.code yX8_keepLock cX8_keepLock 1 none, Cond.methodLink RX8 55 yJ6_bitCount_0f7a4, Cond.static yJ6_bitCount_0f7a4, Cond.initialized RJ6, Cond.code yJ6_bitCount_0f7a4 cJ6_bitCount_0f7a4 1 (some .int), Cond.constant RJ6 265 (1431655765), Cond.constant RJ6 266 (858993459), Cond.constant RJ6 267 (252645135), Cond.methodLink RX9 141 yX0_decode, Cond.instanceMethod yX0_decode]
def wsX9_receive_r4 : List Cond := [Cond.selects RX0 yX0_decode yX0_decode, Cond.initialized RX0, Cond.code yX0_decode cX0_decode 6 none, Cond.fieldLink RX0 9 "Commutator$Decoder" "usedFrames" "I", Cond.fieldLink RX0 15 "Commutator$Decoder" "latestNumber" "I", Cond.fieldLink RX0 18 "Commutator$Decoder" "latestCounter" "I", Cond.fieldLink RX0 21 "Commutator$Decoder" "repeatedFrames" "I", Cond.methodLink RX0 24 yX0_noteLost, Cond.instanceMethod yX0_noteLost, Cond.selects RX0 yX0_noteLost yX0_noteLost, Cond.code yX0_noteLost cX0_noteLost 6 none, Cond.fieldLink RX0 32 "Commutator$Decoder" "lostFrames" "I", Cond.methodLink RX0 40 yX5_at, Cond.instanceMethod yX5_at, Cond.selects RX5 yX5_at yX5_at, Cond.initialized RX5, Cond.code yX5_at cX5_at 2 (some (.object "Commutator$Point")), Cond.fieldLink RX5 21 "Commutator$PointTable" "count" "I", Cond.fieldLink RX5 11 "Commutator$PointTable" "rows" "[LCommutator$Point;", Cond.methodLink RX0 44 yX4_isSentIn, Cond.instanceMethod yX4_isSentIn, Cond.selects RX4 yX4_isSentIn yX4_isSentIn, Cond.initialized RX4, Cond.code yX4_isSentIn cX4_isSentIn 2 (some .boolean)]
def wsX9_receive_r5 : List Cond := [Cond.fieldLink RX4 18 "Commutator$Point" "period" "I", Cond.fieldLink RX4 25 "Commutator$Point" "phase" "I", Cond.methodLink RX0 50 yX4_noteMissing, Cond.instanceMethod yX4_noteMissing, Cond.selects RX4 yX4_noteMissing yX4_noteMissing, Cond.code yX4_noteMissing cX4_noteMissing 1 none, Cond.fieldLink RX4 62 "Commutator$Point" "missingCount" "I", Cond.methodLink RX4 46 yX4_samplesInFrame, Cond.instanceMethod yX4_samplesInFrame, Cond.selects RX4 yX4_samplesInFrame yX4_samplesInFrame, Cond.code yX4_samplesInFrame cX4_samplesInFrame 1 (some .int), Cond.fieldLink RX4 21 "Commutator$Point" "twice" "Z", Cond.methodLink RX0 28 yX0_giveSamples, Cond.instanceMethod yX0_giveSamples, Cond.selects RX0 yX0_giveSamples yX0_giveSamples, Cond.code yX0_giveSamples cX0_giveSamples 6 none, Cond.methodLink RX0 53 yX4_readFrom, Cond.instanceMethod yX4_readFrom, Cond.selects RX4 yX4_readFrom yX4_readFrom, Cond.code yX4_readFrom cX4_readFrom 6 none, Cond.fieldLink RX4 9 "Commutator$Point" "width" "I", Cond.fieldLink RX4 34 "Commutator$Point" "latest" "LCommutator$Reading;", Cond.fieldLink RX4 59 "Commutator$Point" "sampleCount" "I", Cond.methodLink RX4 49 yX4_shift]
def wsX9_receive_r6 : List Cond := [Cond.instanceMethod yX4_shift, Cond.selects RX4 yX4_shift yX4_shift, Cond.code yX4_shift cX4_shift 2 (some .int), Cond.methodLink RX4 42 yX4_firstBit, Cond.instanceMethod yX4_firstBit, Cond.selects RX4 yX4_firstBit yX4_firstBit, Cond.code yX4_firstBit cX4_firstBit 2 (some .int), Cond.fieldLink RX4 28 "Commutator$Point" "offset" "I", Cond.methodLink RX4 52 yX4_decode, Cond.instanceMethod yX4_decode, Cond.selects RX4 yX4_decode yX4_decode, Cond.code yX4_decode cX4_decode 3 (some .int), Cond.fieldLink RX4 15 "Commutator$Point" "convention" "I", Cond.methodLink RX4 38 yX4_signWeight, Cond.instanceMethod yX4_signWeight, Cond.selects RX4 yX4_signWeight yX4_signWeight, Cond.code yX4_signWeight cX4_signWeight 1 (some .int), Cond.methodLink RX4 55 yX6_set, Cond.instanceMethod yX6_set, Cond.selects RX6 yX6_set yX6_set, Cond.initialized RX6, Cond.code yX6_set cX6_set 3 none, Cond.fieldLink RX6 7 "Commutator$Reading" "known" "Z", Cond.fieldLink RX6 13 "Commutator$Reading" "amount" "I"]
def wsX9_receive_r7 : List Cond := [Cond.fieldLink RX6 17 "Commutator$Reading" "moment" "I"]
def wsX9_receive : List Cond := .code yX9_receive cX9_receive 5 (some .int) :: ((wsX9_receive_r1 ++ (wsX9_receive_r2 ++ (wsX9_receive_r3 ++ (wsX9_receive_r4 ++ (wsX9_receive_r5 ++ (wsX9_receive_r6 ++ wsX9_receive_r7)))))) ++ wsX90 ++ wsX00 ++ wsX80 ++ wsX30 ++ wsX50 ++ wsX40 ++ wsX60 ++ (vx_at0 RX9 57 "java/lang/IllegalArgumentException" ["java/lang/RuntimeException", "java/lang/Exception"]).filter goodWord)
def wsX9_state : List Cond := .code yX9_state cX9_state 1 (some .int) :: ([.fieldLink RX9 33 "Commutator" "synchroniser" "LCommutator$Synchroniser;"] ++ wsX90 ++ wsX80)
def wsX9_taken : List Cond := .code yX9_taken cX9_taken 1 (some .int) :: ([.fieldLink RX9 33 "Commutator" "synchroniser" "LCommutator$Synchroniser;"] ++ wsX90 ++ wsX80)
def wsX9_frames : List Cond := .code yX9_frames cX9_frames 1 (some .int) :: ([.fieldLink RX9 40 "Commutator" "decoder" "LCommutator$Decoder;"] ++ wsX90 ++ wsX00)
def wsX9_lost : List Cond := .code yX9_lost cX9_lost 1 (some .int) :: ([.fieldLink RX9 40 "Commutator" "decoder" "LCommutator$Decoder;"] ++ wsX90 ++ wsX00)
def wsX9_repeats : List Cond := .code yX9_repeats cX9_repeats 1 (some .int) :: ([.fieldLink RX9 40 "Commutator" "decoder" "LCommutator$Decoder;"] ++ wsX90 ++ wsX00)
def wsX9_number : List Cond := .code yX9_number cX9_number 1 (some .int) :: ([.classLink RX9 157 "java/util/NoSuchElementException", .initialized "java/util/NoSuchElementException", .fieldLink RX9 40 "Commutator" "decoder" "LCommutator$Decoder;"] ++ wsX90 ++ wsX00 ++ (vx_at0 RX9 159 "java/util/NoSuchElementException" ["java/lang/RuntimeException", "java/lang/Exception"]).filter goodWord)
def wsX9_latestOf : List Cond := .code yX9_latestOf cX9_latestOf 1 (some (.object "Commutator$Reading")) :: ([.classLink RX9 157 "java/util/NoSuchElementException", .initialized "java/util/NoSuchElementException"] ++ wsX40 ++ wsX60 ++ (vx_at0 RX9 159 "java/util/NoSuchElementException" ["java/lang/RuntimeException", "java/lang/Exception"]).filter goodWord)
def wsX9_value : List Cond := .code yX9_value cX9_value 2 (some .int) :: ([.methodLink RX9 71 yX9_existingPoint, .instanceMethod yX9_existingPoint, .selects RX9 yX9_existingPoint yX9_existingPoint, .initialized RX9, .code yX9_existingPoint cX9_existingPoint 3 (some (.object "Commutator$Point")), .classLink RX9 107 "java/lang/IndexOutOfBoundsException", .initialized "java/lang/IndexOutOfBoundsException", .fieldLink RX9 10 "Commutator" "table" "LCommutator$PointTable;", .methodLink RX9 202 yX5_at, .instanceMethod yX5_at, .selects RX5 yX5_at yX5_at, .initialized RX5, .code yX5_at cX5_at 2 (some (.object "Commutator$Point")), .fieldLink RX5 21 "Commutator$PointTable" "count" "I", .fieldLink RX5 11 "Commutator$PointTable" "rows" "[LCommutator$Point;", .methodLink RX9 163 yX9_latestOf, .static yX9_latestOf, .code yX9_latestOf cX9_latestOf 1 (some (.object "Commutator$Reading")), .classLink RX9 157 "java/util/NoSuchElementException", .initialized "java/util/NoSuchElementException"] ++ wsX60 ++ wsX90 ++ wsX50 ++ wsX40 ++ (vx_at0 RX9 109 "java/lang/IndexOutOfBoundsException" ["java/lang/RuntimeException", "java/lang/Exception"]).filter goodWord ++ (vx_at0 RX9 159 "java/util/NoSuchElementException" ["java/lang/RuntimeException", "java/lang/Exception"]).filter goodWord)
def wsX9_time : List Cond := .code yX9_time cX9_time 2 (some .int) :: ([.methodLink RX9 71 yX9_existingPoint, .instanceMethod yX9_existingPoint, .selects RX9 yX9_existingPoint yX9_existingPoint, .initialized RX9, .code yX9_existingPoint cX9_existingPoint 3 (some (.object "Commutator$Point")), .classLink RX9 107 "java/lang/IndexOutOfBoundsException", .initialized "java/lang/IndexOutOfBoundsException", .fieldLink RX9 10 "Commutator" "table" "LCommutator$PointTable;", .methodLink RX9 202 yX5_at, .instanceMethod yX5_at, .selects RX5 yX5_at yX5_at, .initialized RX5, .code yX5_at cX5_at 2 (some (.object "Commutator$Point")), .fieldLink RX5 21 "Commutator$PointTable" "count" "I", .fieldLink RX5 11 "Commutator$PointTable" "rows" "[LCommutator$Point;", .methodLink RX9 163 yX9_latestOf, .static yX9_latestOf, .code yX9_latestOf cX9_latestOf 1 (some (.object "Commutator$Reading")), .classLink RX9 157 "java/util/NoSuchElementException", .initialized "java/util/NoSuchElementException"] ++ wsX60 ++ wsX90 ++ wsX50 ++ wsX40 ++ (vx_at0 RX9 109 "java/lang/IndexOutOfBoundsException" ["java/lang/RuntimeException", "java/lang/Exception"]).filter goodWord ++ (vx_at0 RX9 159 "java/util/NoSuchElementException" ["java/lang/RuntimeException", "java/lang/Exception"]).filter goodWord)
def wsX9_samples : List Cond := .code yX9_samples cX9_samples 2 (some .int) :: ([.methodLink RX9 71 yX9_existingPoint, .instanceMethod yX9_existingPoint, .selects RX9 yX9_existingPoint yX9_existingPoint, .initialized RX9, .code yX9_existingPoint cX9_existingPoint 3 (some (.object "Commutator$Point")), .classLink RX9 107 "java/lang/IndexOutOfBoundsException", .initialized "java/lang/IndexOutOfBoundsException", .fieldLink RX9 10 "Commutator" "table" "LCommutator$PointTable;", .methodLink RX9 202 yX5_at, .instanceMethod yX5_at, .selects RX5 yX5_at yX5_at, .initialized RX5, .code yX5_at cX5_at 2 (some (.object "Commutator$Point")), .fieldLink RX5 21 "Commutator$PointTable" "count" "I", .fieldLink RX5 11 "Commutator$PointTable" "rows" "[LCommutator$Point;"] ++ wsX40 ++ wsX90 ++ wsX50 ++ (vx_at0 RX9 109 "java/lang/IndexOutOfBoundsException" ["java/lang/RuntimeException", "java/lang/Exception"]).filter goodWord)
def wsX9_missing : List Cond := .code yX9_missing cX9_missing 2 (some .int) :: ([.methodLink RX9 71 yX9_existingPoint, .instanceMethod yX9_existingPoint, .selects RX9 yX9_existingPoint yX9_existingPoint, .initialized RX9, .code yX9_existingPoint cX9_existingPoint 3 (some (.object "Commutator$Point")), .classLink RX9 107 "java/lang/IndexOutOfBoundsException", .initialized "java/lang/IndexOutOfBoundsException", .fieldLink RX9 10 "Commutator" "table" "LCommutator$PointTable;", .methodLink RX9 202 yX5_at, .instanceMethod yX5_at, .selects RX5 yX5_at yX5_at, .initialized RX5, .code yX5_at cX5_at 2 (some (.object "Commutator$Point")), .fieldLink RX5 21 "Commutator$PointTable" "count" "I", .fieldLink RX5 11 "Commutator$PointTable" "rows" "[LCommutator$Point;"] ++ wsX40 ++ wsX90 ++ wsX50 ++ (vx_at0 RX9 109 "java/lang/IndexOutOfBoundsException" ["java/lang/RuntimeException", "java/lang/Exception"]).filter goodWord)
def wsX9_isDerived : List Cond := .code yX9_isDerived cX9_isDerived 1 (some .boolean) :: ([])
def wsX9_isOperand : List Cond := .code yX9_isOperand cX9_isOperand 1 (some .boolean) :: ([.methodLink RX9 181 yX9_isDerived, .static yX9_isDerived, .initialized RX9, .code yX9_isDerived cX9_isDerived 1 (some .boolean)])
def wsX9_derive_r1 : List Cond := [Cond.classLink RX9 55 "java/lang/IllegalArgumentException", Cond.initialized "java/lang/IllegalArgumentException", Cond.classLink RX9 65 "java/lang/IllegalStateException", Cond.initialized "java/lang/IllegalStateException", Cond.fieldLink RX9 47 "Commutator" "derivedTable" "LCommutator$DerivedTable;", Cond.methodLink RX9 181 yX9_isDerived, Cond.static yX9_isDerived, Cond.initialized RX9, Cond.code yX9_isDerived cX9_isDerived 1 (some .boolean), Cond.methodLink RX9 184 yX9_isOperand, Cond.static yX9_isOperand, Cond.code yX9_isOperand cX9_isOperand 1 (some .boolean), Cond.methodLink RX9 187 yX2_wouldNeedItself, Cond.instanceMethod yX2_wouldNeedItself, Cond.selects RX2 yX2_wouldNeedItself yX2_wouldNeedItself, Cond.initialized RX2, Cond.code yX2_wouldNeedItself cX2_wouldNeedItself 6 (some .boolean), Cond.fieldLink RX2 11 "Commutator$DerivedTable" "rows" "[LCommutator$Derived;", Cond.methodLink RX2 36 yX2_operandMask, Cond.static yX2_operandMask, Cond.code yX2_operandMask cX2_operandMask 1 (some .int), Cond.methodLink RX2 40 yX2_needsOf, Cond.instanceMethod yX2_needsOf, Cond.selects RX2 yX2_needsOf yX2_needsOf]
def wsX9_derive_r2 : List Cond := [Cond.code yX2_needsOf cX2_needsOf 5 (some .int), Cond.methodLink RX9 191 yX2_define, Cond.instanceMethod yX2_define, Cond.selects RX2 yX2_define yX2_define, Cond.code yX2_define cX2_define 6 none, Cond.methodLink RX2 18 yX2_at, Cond.instanceMethod yX2_at, Cond.selects RX2 yX2_at yX2_at, Cond.code yX2_at cX2_at 2 (some (.object "Commutator$Derived"))]
def wsX9_derive : List Cond := .code yX9_derive cX9_derive 5 none :: ((wsX9_derive_r1 ++ wsX9_derive_r2) ++ wsX90 ++ wsX20 ++ wsX10 ++ (vx_at0 RX9 57 "java/lang/IllegalArgumentException" ["java/lang/RuntimeException", "java/lang/Exception"]).filter goodWord ++ (vx_at0 RX9 67 "java/lang/IllegalStateException" ["java/lang/RuntimeException", "java/lang/Exception"]).filter goodWord)
def wsX9_resultOf_r1 : List Cond := [Cond.classLink RX9 55 "java/lang/IllegalArgumentException", Cond.initialized "java/lang/IllegalArgumentException", Cond.classLink RX9 157 "java/util/NoSuchElementException", Cond.initialized "java/util/NoSuchElementException", Cond.fieldLink RX9 47 "Commutator" "derivedTable" "LCommutator$DerivedTable;", Cond.fieldLink RX9 10 "Commutator" "table" "LCommutator$PointTable;", Cond.methodLink RX9 181 yX9_isDerived, Cond.static yX9_isDerived, Cond.initialized RX9, Cond.code yX9_isDerived cX9_isDerived 1 (some .boolean), Cond.methodLink RX9 212 yX2_compute, Cond.instanceMethod yX2_compute, Cond.selects RX2 yX2_compute yX2_compute, Cond.initialized RX2, Cond.code yX2_compute cX2_compute 5 (some (.object "Commutator$Reading")), Cond.fieldLink RX2 11 "Commutator$DerivedTable" "rows" "[LCommutator$Derived;", Cond.methodLink RX2 47 yX6_forget, Cond.instanceMethod yX6_forget, Cond.selects RX6 yX6_forget yX6_forget, Cond.initialized RX6, Cond.code yX6_forget cX6_forget 1 none, Cond.fieldLink RX6 7 "Commutator$Reading" "known" "Z", Cond.methodLink RX2 52 yX2_computeOne, Cond.instanceMethod yX2_computeOne]
def wsX9_resultOf_r2 : List Cond := [Cond.selects RX2 yX2_computeOne yX2_computeOne, Cond.code yX2_computeOne cX2_computeOne 5 none, Cond.methodLink RX2 59 yX2_operand, Cond.instanceMethod yX2_operand, Cond.selects RX2 yX2_operand yX2_operand, Cond.code yX2_operand cX2_operand 4 (some (.object "Commutator$Reading")), Cond.methodLink RX2 18 yX2_at, Cond.instanceMethod yX2_at, Cond.selects RX2 yX2_at yX2_at, Cond.code yX2_at cX2_at 2 (some (.object "Commutator$Derived")), Cond.methodLink RX2 67 yX5_at, Cond.instanceMethod yX5_at, Cond.selects RX5 yX5_at yX5_at, Cond.initialized RX5, Cond.code yX5_at cX5_at 2 (some (.object "Commutator$Point")), Cond.fieldLink RX5 21 "Commutator$PointTable" "count" "I", Cond.fieldLink RX5 11 "Commutator$PointTable" "rows" "[LCommutator$Point;", Cond.methodLink RX2 63 yX1_combine, Cond.instanceMethod yX1_combine, Cond.selects RX1 yX1_combine yX1_combine, Cond.initialized RX1, Cond.code yX1_combine cX1_combine 4 none, Cond.constantLong RX1 16 (-1000000), Cond.constantLong RX1 18 (1000000)]
def wsX9_resultOf_r3 : List Cond := [Cond.methodLink RX1 28 Lib.MathLoose.min_long.x, Cond.static Lib.MathLoose.min_long.x, Cond.initialized "java/lang/Math", Cond.code Lib.MathLoose.min_long.x Lib.MathLoose.min_long.code 4 (some .long), Cond.methodLink RX1 33 Lib.MathLoose.max_long.x, Cond.static Lib.MathLoose.max_long.x, Cond.code Lib.MathLoose.max_long.x Lib.MathLoose.max_long.code 4 (some .long), Cond.fieldLink RX1 10 "Commutator$Derived" "result" "LCommutator$Reading;", Cond.methodLink RX1 39 Lib.Math.max.name, Cond.static Lib.Math.max.name, Cond.code Lib.Math.max.name Lib.Math.max.code 2 (some .int), Cond.methodLink RX1 24 yX1_operate, Cond.instanceMethod yX1_operate, Cond.selects RX1 yX1_operate yX1_operate, Cond.code yX1_operate cX1_operate 5 (some .long), Cond.fieldLink RX1 46 "Commutator$Derived" "operation" "I", Cond.methodLink RX1 42 yX6_set, Cond.instanceMethod yX6_set, Cond.selects RX6 yX6_set yX6_set, Cond.code yX6_set cX6_set 3 none, Cond.fieldLink RX6 13 "Commutator$Reading" "amount" "I", Cond.fieldLink RX6 17 "Commutator$Reading" "moment" "I"]
def wsX9_resultOf : List Cond := .code yX9_resultOf cX9_resultOf 3 (some (.object "Commutator$Reading")) :: ((wsX9_resultOf_r1 ++ (wsX9_resultOf_r2 ++ wsX9_resultOf_r3)) ++ wsX90 ++ wsX60 ++ wsX20 ++ wsX10 ++ wsX40 ++ wsX50 ++ (vx_at0 RX9 57 "java/lang/IllegalArgumentException" ["java/lang/RuntimeException", "java/lang/Exception"]).filter goodWord ++ (vx_at0 RX9 159 "java/util/NoSuchElementException" ["java/lang/RuntimeException", "java/lang/Exception"]).filter goodWord)
def wsX9_derivedValue_r1 : List Cond := [Cond.methodLink RX9 195 yX9_resultOf, Cond.instanceMethod yX9_resultOf, Cond.selects RX9 yX9_resultOf yX9_resultOf, Cond.initialized RX9, Cond.code yX9_resultOf cX9_resultOf 3 (some (.object "Commutator$Reading")), Cond.classLink RX9 55 "java/lang/IllegalArgumentException", Cond.initialized "java/lang/IllegalArgumentException", Cond.classLink RX9 157 "java/util/NoSuchElementException", Cond.initialized "java/util/NoSuchElementException", Cond.fieldLink RX9 47 "Commutator" "derivedTable" "LCommutator$DerivedTable;", Cond.fieldLink RX9 10 "Commutator" "table" "LCommutator$PointTable;", Cond.methodLink RX9 181 yX9_isDerived, Cond.static yX9_isDerived, Cond.code yX9_isDerived cX9_isDerived 1 (some .boolean), Cond.methodLink RX9 212 yX2_compute, Cond.instanceMethod yX2_compute, Cond.selects RX2 yX2_compute yX2_compute, Cond.initialized RX2, Cond.code yX2_compute cX2_compute 5 (some (.object "Commutator$Reading")), Cond.fieldLink RX2 11 "Commutator$DerivedTable" "rows" "[LCommutator$Derived;", Cond.methodLink RX2 47 yX6_forget, Cond.instanceMethod yX6_forget, Cond.selects RX6 yX6_forget yX6_forget, Cond.initialized RX6]
def wsX9_derivedValue_r2 : List Cond := [Cond.code yX6_forget cX6_forget 1 none, Cond.fieldLink RX6 7 "Commutator$Reading" "known" "Z", Cond.methodLink RX2 52 yX2_computeOne, Cond.instanceMethod yX2_computeOne, Cond.selects RX2 yX2_computeOne yX2_computeOne, Cond.code yX2_computeOne cX2_computeOne 5 none, Cond.methodLink RX2 59 yX2_operand, Cond.instanceMethod yX2_operand, Cond.selects RX2 yX2_operand yX2_operand, Cond.code yX2_operand cX2_operand 4 (some (.object "Commutator$Reading")), Cond.methodLink RX2 18 yX2_at, Cond.instanceMethod yX2_at, Cond.selects RX2 yX2_at yX2_at, Cond.code yX2_at cX2_at 2 (some (.object "Commutator$Derived")), Cond.methodLink RX2 67 yX5_at, Cond.instanceMethod yX5_at, Cond.selects RX5 yX5_at yX5_at, Cond.initialized RX5, Cond.code yX5_at cX5_at 2 (some (.object "Commutator$Point")), Cond.fieldLink RX5 21 "Commutator$PointTable" "count" "I", Cond.fieldLink RX5 11 "Commutator$PointTable" "rows" "[LCommutator$Point;", Cond.methodLink RX2 63 yX1_combine, Cond.instanceMethod yX1_combine, Cond.selects RX1 yX1_combine yX1_combine]
def wsX9_derivedValue_r3 : List Cond := [Cond.initialized RX1, Cond.code yX1_combine cX1_combine 4 none, Cond.constantLong RX1 16 (-1000000), Cond.constantLong RX1 18 (1000000), Cond.methodLink RX1 28 Lib.MathLoose.min_long.x, Cond.static Lib.MathLoose.min_long.x, Cond.initialized "java/lang/Math", Cond.code Lib.MathLoose.min_long.x Lib.MathLoose.min_long.code 4 (some .long), Cond.methodLink RX1 33 Lib.MathLoose.max_long.x, Cond.static Lib.MathLoose.max_long.x, Cond.code Lib.MathLoose.max_long.x Lib.MathLoose.max_long.code 4 (some .long), Cond.fieldLink RX1 10 "Commutator$Derived" "result" "LCommutator$Reading;", Cond.methodLink RX1 39 Lib.Math.max.name, Cond.static Lib.Math.max.name, Cond.code Lib.Math.max.name Lib.Math.max.code 2 (some .int), Cond.methodLink RX1 24 yX1_operate, Cond.instanceMethod yX1_operate, Cond.selects RX1 yX1_operate yX1_operate, Cond.code yX1_operate cX1_operate 5 (some .long), Cond.fieldLink RX1 46 "Commutator$Derived" "operation" "I", Cond.methodLink RX1 42 yX6_set, Cond.instanceMethod yX6_set, Cond.selects RX6 yX6_set yX6_set, Cond.code yX6_set cX6_set 3 none]
def wsX9_derivedValue_r4 : List Cond := [Cond.fieldLink RX6 13 "Commutator$Reading" "amount" "I", Cond.fieldLink RX6 17 "Commutator$Reading" "moment" "I"]
def wsX9_derivedValue : List Cond := .code yX9_derivedValue cX9_derivedValue 2 (some .int) :: ((wsX9_derivedValue_r1 ++ (wsX9_derivedValue_r2 ++ (wsX9_derivedValue_r3 ++ wsX9_derivedValue_r4))) ++ wsX60 ++ wsX90 ++ wsX20 ++ wsX10 ++ wsX40 ++ wsX50 ++ (vx_at0 RX9 57 "java/lang/IllegalArgumentException" ["java/lang/RuntimeException", "java/lang/Exception"]).filter goodWord ++ (vx_at0 RX9 159 "java/util/NoSuchElementException" ["java/lang/RuntimeException", "java/lang/Exception"]).filter goodWord)
def wsX9_derivedTime_r1 : List Cond := [Cond.methodLink RX9 195 yX9_resultOf, Cond.instanceMethod yX9_resultOf, Cond.selects RX9 yX9_resultOf yX9_resultOf, Cond.initialized RX9, Cond.code yX9_resultOf cX9_resultOf 3 (some (.object "Commutator$Reading")), Cond.classLink RX9 55 "java/lang/IllegalArgumentException", Cond.initialized "java/lang/IllegalArgumentException", Cond.classLink RX9 157 "java/util/NoSuchElementException", Cond.initialized "java/util/NoSuchElementException", Cond.fieldLink RX9 47 "Commutator" "derivedTable" "LCommutator$DerivedTable;", Cond.fieldLink RX9 10 "Commutator" "table" "LCommutator$PointTable;", Cond.methodLink RX9 181 yX9_isDerived, Cond.static yX9_isDerived, Cond.code yX9_isDerived cX9_isDerived 1 (some .boolean), Cond.methodLink RX9 212 yX2_compute, Cond.instanceMethod yX2_compute, Cond.selects RX2 yX2_compute yX2_compute, Cond.initialized RX2, Cond.code yX2_compute cX2_compute 5 (some (.object "Commutator$Reading")), Cond.fieldLink RX2 11 "Commutator$DerivedTable" "rows" "[LCommutator$Derived;", Cond.methodLink RX2 47 yX6_forget, Cond.instanceMethod yX6_forget, Cond.selects RX6 yX6_forget yX6_forget, Cond.initialized RX6]
def wsX9_derivedTime_r2 : List Cond := [Cond.code yX6_forget cX6_forget 1 none, Cond.fieldLink RX6 7 "Commutator$Reading" "known" "Z", Cond.methodLink RX2 52 yX2_computeOne, Cond.instanceMethod yX2_computeOne, Cond.selects RX2 yX2_computeOne yX2_computeOne, Cond.code yX2_computeOne cX2_computeOne 5 none, Cond.methodLink RX2 59 yX2_operand, Cond.instanceMethod yX2_operand, Cond.selects RX2 yX2_operand yX2_operand, Cond.code yX2_operand cX2_operand 4 (some (.object "Commutator$Reading")), Cond.methodLink RX2 18 yX2_at, Cond.instanceMethod yX2_at, Cond.selects RX2 yX2_at yX2_at, Cond.code yX2_at cX2_at 2 (some (.object "Commutator$Derived")), Cond.methodLink RX2 67 yX5_at, Cond.instanceMethod yX5_at, Cond.selects RX5 yX5_at yX5_at, Cond.initialized RX5, Cond.code yX5_at cX5_at 2 (some (.object "Commutator$Point")), Cond.fieldLink RX5 21 "Commutator$PointTable" "count" "I", Cond.fieldLink RX5 11 "Commutator$PointTable" "rows" "[LCommutator$Point;", Cond.methodLink RX2 63 yX1_combine, Cond.instanceMethod yX1_combine, Cond.selects RX1 yX1_combine yX1_combine]
def wsX9_derivedTime_r3 : List Cond := [Cond.initialized RX1, Cond.code yX1_combine cX1_combine 4 none, Cond.constantLong RX1 16 (-1000000), Cond.constantLong RX1 18 (1000000), Cond.methodLink RX1 28 Lib.MathLoose.min_long.x, Cond.static Lib.MathLoose.min_long.x, Cond.initialized "java/lang/Math", Cond.code Lib.MathLoose.min_long.x Lib.MathLoose.min_long.code 4 (some .long), Cond.methodLink RX1 33 Lib.MathLoose.max_long.x, Cond.static Lib.MathLoose.max_long.x, Cond.code Lib.MathLoose.max_long.x Lib.MathLoose.max_long.code 4 (some .long), Cond.fieldLink RX1 10 "Commutator$Derived" "result" "LCommutator$Reading;", Cond.methodLink RX1 39 Lib.Math.max.name, Cond.static Lib.Math.max.name, Cond.code Lib.Math.max.name Lib.Math.max.code 2 (some .int), Cond.methodLink RX1 24 yX1_operate, Cond.instanceMethod yX1_operate, Cond.selects RX1 yX1_operate yX1_operate, Cond.code yX1_operate cX1_operate 5 (some .long), Cond.fieldLink RX1 46 "Commutator$Derived" "operation" "I", Cond.methodLink RX1 42 yX6_set, Cond.instanceMethod yX6_set, Cond.selects RX6 yX6_set yX6_set, Cond.code yX6_set cX6_set 3 none]
def wsX9_derivedTime_r4 : List Cond := [Cond.fieldLink RX6 13 "Commutator$Reading" "amount" "I", Cond.fieldLink RX6 17 "Commutator$Reading" "moment" "I"]
def wsX9_derivedTime : List Cond := .code yX9_derivedTime cX9_derivedTime 2 (some .int) :: ((wsX9_derivedTime_r1 ++ (wsX9_derivedTime_r2 ++ (wsX9_derivedTime_r3 ++ wsX9_derivedTime_r4))) ++ wsX60 ++ wsX90 ++ wsX20 ++ wsX10 ++ wsX40 ++ wsX50 ++ (vx_at0 RX9 57 "java/lang/IllegalArgumentException" ["java/lang/RuntimeException", "java/lang/Exception"]).filter goodWord ++ (vx_at0 RX9 159 "java/util/NoSuchElementException" ["java/lang/RuntimeException", "java/lang/Exception"]).filter goodWord)
def wsX9_matches : List Cond := .code yX9_matches cX9_matches 2 (some .int) :: ([.classLink RX9 55 "java/lang/IllegalArgumentException", .initialized "java/lang/IllegalArgumentException", .fieldLink RX9 33 "Commutator" "synchroniser" "LCommutator$Synchroniser;", .methodLink RX9 199 yX8_syncWordsAt, .instanceMethod yX8_syncWordsAt, .selects RX8 yX8_syncWordsAt yX8_syncWordsAt, .initialized RX8, .code yX8_syncWordsAt cX8_syncWordsAt 2 (some .int), .fieldLink RX8 15 "Commutator$Synchroniser" "syncWords" "[I"] ++ wsX90 ++ wsX80 ++ (vx_at0 RX9 57 "java/lang/IllegalArgumentException" ["java/lang/RuntimeException", "java/lang/Exception"]).filter goodWord)
def wsX9_bestOffset : List Cond := .code yX9_bestOffset cX9_bestOffset 3 (some .int) :: ([.fieldLink RX9 33 "Commutator" "synchroniser" "LCommutator$Synchroniser;", .methodLink RX9 199 yX8_syncWordsAt, .instanceMethod yX8_syncWordsAt, .selects RX8 yX8_syncWordsAt yX8_syncWordsAt, .initialized RX8, .code yX8_syncWordsAt cX8_syncWordsAt 2 (some .int), .fieldLink RX8 15 "Commutator$Synchroniser" "syncWords" "[I"] ++ wsX90 ++ wsX80)
def wsX10_init_r1 : List Cond := [Cond.methodLink RX10 1 objectInit, Cond.instanceMethod objectInit, Cond.code objectInit ⟨#[0xb1]⟩ 1 none, Cond.arrayClass .int, Cond.fieldLink RX10 7 "CommutatorModel" "width" "[I", Cond.fieldLink RX10 13 "CommutatorModel" "convention" "[I", Cond.fieldLink RX10 16 "CommutatorModel" "period" "[I", Cond.fieldLink RX10 19 "CommutatorModel" "samplesEach" "[I", Cond.fieldLink RX10 22 "CommutatorModel" "phase" "[I", Cond.fieldLink RX10 25 "CommutatorModel" "offset" "[I", Cond.fieldLink RX10 28 "CommutatorModel" "present" "[I", Cond.fieldLink RX10 31 "CommutatorModel" "sending" "[I", Cond.fieldLink RX10 34 "CommutatorModel" "line" "[I", Cond.fieldLink RX10 37 "CommutatorModel" "past" "[I", Cond.fieldLink RX10 40 "CommutatorModel" "value" "[I", Cond.fieldLink RX10 43 "CommutatorModel" "time" "[I", Cond.fieldLink RX10 46 "CommutatorModel" "samples" "[I", Cond.fieldLink RX10 49 "CommutatorModel" "missing" "[I", Cond.fieldLink RX10 52 "CommutatorModel" "operation" "[I", Cond.fieldLink RX10 55 "CommutatorModel" "first" "[I", Cond.fieldLink RX10 58 "CommutatorModel" "second" "[I", Cond.arrayClass .boolean, Cond.fieldLink RX10 61 "CommutatorModel" "isKnown" "[Z", Cond.fieldLink RX10 65 "CommutatorModel" "derived" "[I"]
def wsX10_init_r2 : List Cond := [Cond.fieldLink RX10 68 "CommutatorModel" "derivedAt" "[I", Cond.fieldLink RX10 71 "CommutatorModel" "counter" "I", Cond.fieldLink RX10 75 "CommutatorModel" "begun" "I"]
def wsX10_init : List Cond := .code yX10_init cX10_init 2 none :: ((wsX10_init_r1 ++ wsX10_init_r2) ++ wsX100)
def wsX10_thrown : List Cond := .code yX10_thrown cX10_thrown 1 (some .int) :: ([.fieldLink RX10 78 "CommutatorModel" "thrown" "I"] ++ wsX100)
def wsX10_can : List Cond := .code yX10_can cX10_can 2 (some .boolean) :: ([.fieldLink RX10 78 "CommutatorModel" "thrown" "I"] ++ wsX100)
def wsX10_isIn : List Cond := .code yX10_isIn cX10_isIn 3 (some .boolean) :: ([])
def wsX10_isPoint : List Cond := .code yX10_isPoint cX10_isPoint 2 (some .boolean) :: ([.fieldLink RX10 81 "CommutatorModel" "points" "I", .methodLink RX10 84 yX10_isIn, .static yX10_isIn, .initialized RX10, .code yX10_isIn cX10_isIn 3 (some .boolean)] ++ wsX100)
def wsX10_isSent : List Cond := .code yX10_isSent cX10_isSent 3 (some .boolean) :: ([.fieldLink RX10 16 "CommutatorModel" "period" "[I", .fieldLink RX10 22 "CommutatorModel" "phase" "[I"] ++ wsX100)
def wsX10_userOf : List Cond := .code yX10_userOf cX10_userOf 7 (some .int) :: ([.fieldLink RX10 81 "CommutatorModel" "points" "I", .fieldLink RX10 25 "CommutatorModel" "offset" "[I", .fieldLink RX10 7 "CommutatorModel" "width" "[I", .fieldLink RX10 19 "CommutatorModel" "samplesEach" "[I", .methodLink RX10 88 yX10_isSent, .instanceMethod yX10_isSent, .selects RX10 yX10_isSent yX10_isSent, .initialized RX10, .code yX10_isSent cX10_isSent 3 (some .boolean), .fieldLink RX10 16 "CommutatorModel" "period" "[I", .fieldLink RX10 22 "CommutatorModel" "phase" "[I"] ++ wsX100)
def wsX10_isFree : List Cond := .code yX10_isFree cX10_isFree 9 (some .boolean) :: ([.methodLink RX10 92 yX10_userOf, .instanceMethod yX10_userOf, .selects RX10 yX10_userOf yX10_userOf, .initialized RX10, .code yX10_userOf cX10_userOf 7 (some .int), .fieldLink RX10 81 "CommutatorModel" "points" "I", .fieldLink RX10 25 "CommutatorModel" "offset" "[I", .fieldLink RX10 7 "CommutatorModel" "width" "[I", .fieldLink RX10 19 "CommutatorModel" "samplesEach" "[I", .methodLink RX10 88 yX10_isSent, .instanceMethod yX10_isSent, .selects RX10 yX10_isSent yX10_isSent, .code yX10_isSent cX10_isSent 3 (some .boolean), .fieldLink RX10 16 "CommutatorModel" "period" "[I", .fieldLink RX10 22 "CommutatorModel" "phase" "[I"] ++ wsX100)
def wsX10_firstPlace : List Cond := .code yX10_firstPlace cX10_firstPlace 6 (some .int) :: ([.methodLink RX10 96 yX10_isFree, .instanceMethod yX10_isFree, .selects RX10 yX10_isFree yX10_isFree, .initialized RX10, .code yX10_isFree cX10_isFree 9 (some .boolean), .methodLink RX10 92 yX10_userOf, .instanceMethod yX10_userOf, .selects RX10 yX10_userOf yX10_userOf, .code yX10_userOf cX10_userOf 7 (some .int), .fieldLink RX10 81 "CommutatorModel" "points" "I", .fieldLink RX10 25 "CommutatorModel" "offset" "[I", .fieldLink RX10 7 "CommutatorModel" "width" "[I", .fieldLink RX10 19 "CommutatorModel" "samplesEach" "[I", .methodLink RX10 88 yX10_isSent, .instanceMethod yX10_isSent, .selects RX10 yX10_isSent yX10_isSent, .code yX10_isSent cX10_isSent 3 (some .boolean), .fieldLink RX10 16 "CommutatorModel" "period" "[I", .fieldLink RX10 22 "CommutatorModel" "phase" "[I"] ++ wsX100)
def wsX10_addPoint_r1 : List Cond := [Cond.fieldLink RX10 81 "CommutatorModel" "points" "I", Cond.fieldLink RX10 104 "CommutatorModel" "words" "I", Cond.fieldLink RX10 7 "CommutatorModel" "width" "[I", Cond.fieldLink RX10 13 "CommutatorModel" "convention" "[I", Cond.fieldLink RX10 16 "CommutatorModel" "period" "[I", Cond.fieldLink RX10 19 "CommutatorModel" "samplesEach" "[I", Cond.fieldLink RX10 22 "CommutatorModel" "phase" "[I", Cond.fieldLink RX10 25 "CommutatorModel" "offset" "[I", Cond.methodLink RX10 84 yX10_isIn, Cond.static yX10_isIn, Cond.initialized RX10, Cond.code yX10_isIn cX10_isIn 3 (some .boolean), Cond.methodLink RX10 100 yX10_firstPlace, Cond.instanceMethod yX10_firstPlace, Cond.selects RX10 yX10_firstPlace yX10_firstPlace, Cond.code yX10_firstPlace cX10_firstPlace 6 (some .int), Cond.methodLink RX10 96 yX10_isFree, Cond.instanceMethod yX10_isFree, Cond.selects RX10 yX10_isFree yX10_isFree, Cond.code yX10_isFree cX10_isFree 9 (some .boolean), Cond.methodLink RX10 92 yX10_userOf, Cond.instanceMethod yX10_userOf, Cond.selects RX10 yX10_userOf yX10_userOf, Cond.code yX10_userOf cX10_userOf 7 (some .int)]
def wsX10_addPoint_r2 : List Cond := [Cond.methodLink RX10 88 yX10_isSent, Cond.instanceMethod yX10_isSent, Cond.selects RX10 yX10_isSent yX10_isSent, Cond.code yX10_isSent cX10_isSent 3 (some .boolean), Cond.methodLink RX10 107 yX10_can, Cond.instanceMethod yX10_can, Cond.selects RX10 yX10_can yX10_can, Cond.code yX10_can cX10_can 2 (some .boolean), Cond.fieldLink RX10 78 "CommutatorModel" "thrown" "I"]
def wsX10_addPoint : List Cond := .code yX10_addPoint cX10_addPoint 7 (some .int) :: ((wsX10_addPoint_r1 ++ wsX10_addPoint_r2) ++ wsX100)
def wsX10_points : List Cond := .code yX10_points cX10_points 1 (some .int) :: ([.fieldLink RX10 78 "CommutatorModel" "thrown" "I", .fieldLink RX10 81 "CommutatorModel" "points" "I"] ++ wsX100)
def wsX10_place : List Cond := .code yX10_place cX10_place 2 (some .int) :: ([.fieldLink RX10 22 "CommutatorModel" "phase" "[I", .fieldLink RX10 25 "CommutatorModel" "offset" "[I", .methodLink RX10 111 yX10_isPoint, .instanceMethod yX10_isPoint, .selects RX10 yX10_isPoint yX10_isPoint, .initialized RX10, .code yX10_isPoint cX10_isPoint 2 (some .boolean), .fieldLink RX10 81 "CommutatorModel" "points" "I", .methodLink RX10 84 yX10_isIn, .static yX10_isIn, .code yX10_isIn cX10_isIn 3 (some .boolean), .methodLink RX10 107 yX10_can, .instanceMethod yX10_can, .selects RX10 yX10_can yX10_can, .code yX10_can cX10_can 2 (some .boolean), .fieldLink RX10 78 "CommutatorModel" "thrown" "I"] ++ wsX100)
def wsX10_spare : List Cond := .code yX10_spare cX10_spare 3 (some .int) :: ([.fieldLink RX10 78 "CommutatorModel" "thrown" "I", .methodLink RX10 92 yX10_userOf, .instanceMethod yX10_userOf, .selects RX10 yX10_userOf yX10_userOf, .initialized RX10, .code yX10_userOf cX10_userOf 7 (some .int), .fieldLink RX10 81 "CommutatorModel" "points" "I", .fieldLink RX10 25 "CommutatorModel" "offset" "[I", .fieldLink RX10 7 "CommutatorModel" "width" "[I", .fieldLink RX10 19 "CommutatorModel" "samplesEach" "[I", .methodLink RX10 88 yX10_isSent, .instanceMethod yX10_isSent, .selects RX10 yX10_isSent yX10_isSent, .code yX10_isSent cX10_isSent 3 (some .boolean), .fieldLink RX10 16 "CommutatorModel" "period" "[I", .fieldLink RX10 22 "CommutatorModel" "phase" "[I"] ++ wsX100)
def wsX10_put : List Cond := .code yX10_put cX10_put 7 (some .int) :: ([.fieldLink RX10 7 "CommutatorModel" "width" "[I", .fieldLink RX10 13 "CommutatorModel" "convention" "[I", .fieldLink RX10 28 "CommutatorModel" "present" "[I", .methodLink RX10 111 yX10_isPoint, .instanceMethod yX10_isPoint, .selects RX10 yX10_isPoint yX10_isPoint, .initialized RX10, .code yX10_isPoint cX10_isPoint 2 (some .boolean), .fieldLink RX10 81 "CommutatorModel" "points" "I", .methodLink RX10 84 yX10_isIn, .static yX10_isIn, .code yX10_isIn cX10_isIn 3 (some .boolean), .methodLink RX10 107 yX10_can, .instanceMethod yX10_can, .selects RX10 yX10_can yX10_can, .code yX10_can cX10_can 2 (some .boolean), .fieldLink RX10 78 "CommutatorModel" "thrown" "I"] ++ wsX100)
def wsX10_coded : List Cond := .code yX10_coded cX10_coded 4 (some .int) :: ([.fieldLink RX10 7 "CommutatorModel" "width" "[I", .fieldLink RX10 13 "CommutatorModel" "convention" "[I"] ++ wsX100)
def wsX10_read : List Cond := .code yX10_read cX10_read 4 (some .int) :: ([.fieldLink RX10 7 "CommutatorModel" "width" "[I", .fieldLink RX10 13 "CommutatorModel" "convention" "[I"] ++ wsX100)
def wsX10_sendWord_r1 : List Cond := [Cond.fieldLink RX10 104 "CommutatorModel" "words" "I", Cond.fieldLink RX10 81 "CommutatorModel" "points" "I", Cond.fieldLink RX10 19 "CommutatorModel" "samplesEach" "[I", Cond.fieldLink RX10 25 "CommutatorModel" "offset" "[I", Cond.fieldLink RX10 31 "CommutatorModel" "sending" "[I", Cond.fieldLink RX10 28 "CommutatorModel" "present" "[I", Cond.fieldLink RX10 7 "CommutatorModel" "width" "[I", Cond.fieldLink RX10 34 "CommutatorModel" "line" "[I", Cond.fieldLink RX10 117 "CommutatorModel" "onLine" "I", Cond.methodLink RX10 88 yX10_isSent, Cond.instanceMethod yX10_isSent, Cond.selects RX10 yX10_isSent yX10_isSent, Cond.initialized RX10, Cond.code yX10_isSent cX10_isSent 3 (some .boolean), Cond.fieldLink RX10 16 "CommutatorModel" "period" "[I", Cond.fieldLink RX10 22 "CommutatorModel" "phase" "[I", Cond.methodLink RX10 114 yX10_coded, Cond.instanceMethod yX10_coded, Cond.selects RX10 yX10_coded yX10_coded, Cond.code yX10_coded cX10_coded 4 (some .int), Cond.fieldLink RX10 13 "CommutatorModel" "convention" "[I", Cond.methodLink RX10 92 yX10_userOf, Cond.instanceMethod yX10_userOf, Cond.selects RX10 yX10_userOf yX10_userOf]
def wsX10_sendWord_r2 : List Cond := [Cond.code yX10_userOf cX10_userOf 7 (some .int)]
def wsX10_sendWord : List Cond := .code yX10_sendWord cX10_sendWord 7 none :: ((wsX10_sendWord_r1 ++ wsX10_sendWord_r2) ++ wsX100)
def wsX10_send_r1 : List Cond := [Cond.fieldLink RX10 104 "CommutatorModel" "words" "I", Cond.fieldLink RX10 117 "CommutatorModel" "onLine" "I", Cond.methodLink RX10 84 yX10_isIn, Cond.static yX10_isIn, Cond.initialized RX10, Cond.code yX10_isIn cX10_isIn 3 (some .boolean), Cond.methodLink RX10 107 yX10_can, Cond.instanceMethod yX10_can, Cond.selects RX10 yX10_can yX10_can, Cond.code yX10_can cX10_can 2 (some .boolean), Cond.fieldLink RX10 78 "CommutatorModel" "thrown" "I", Cond.methodLink RX10 120 yX10_sendWord, Cond.instanceMethod yX10_sendWord, Cond.selects RX10 yX10_sendWord yX10_sendWord, Cond.code yX10_sendWord cX10_sendWord 7 none, Cond.fieldLink RX10 81 "CommutatorModel" "points" "I", Cond.fieldLink RX10 19 "CommutatorModel" "samplesEach" "[I", Cond.fieldLink RX10 25 "CommutatorModel" "offset" "[I", Cond.fieldLink RX10 31 "CommutatorModel" "sending" "[I", Cond.fieldLink RX10 28 "CommutatorModel" "present" "[I", Cond.fieldLink RX10 7 "CommutatorModel" "width" "[I", Cond.fieldLink RX10 34 "CommutatorModel" "line" "[I", Cond.methodLink RX10 88 yX10_isSent, Cond.instanceMethod yX10_isSent]
def wsX10_send_r2 : List Cond := [Cond.selects RX10 yX10_isSent yX10_isSent, Cond.code yX10_isSent cX10_isSent 3 (some .boolean), Cond.fieldLink RX10 16 "CommutatorModel" "period" "[I", Cond.fieldLink RX10 22 "CommutatorModel" "phase" "[I", Cond.methodLink RX10 114 yX10_coded, Cond.instanceMethod yX10_coded, Cond.selects RX10 yX10_coded yX10_coded, Cond.code yX10_coded cX10_coded 4 (some .int), Cond.fieldLink RX10 13 "CommutatorModel" "convention" "[I", Cond.methodLink RX10 92 yX10_userOf, Cond.instanceMethod yX10_userOf, Cond.selects RX10 yX10_userOf yX10_userOf, Cond.code yX10_userOf cX10_userOf 7 (some .int)]
def wsX10_send : List Cond := .code yX10_send cX10_send 3 (some .int) :: ((wsX10_send_r1 ++ wsX10_send_r2) ++ wsX100)
def wsX10_sent : List Cond := .code yX10_sent cX10_sent 1 (some .int) :: ([.fieldLink RX10 78 "CommutatorModel" "thrown" "I", .fieldLink RX10 104 "CommutatorModel" "words" "I"] ++ wsX100)
def wsX10_onLine : List Cond := .code yX10_onLine cX10_onLine 1 (some .int) :: ([.fieldLink RX10 78 "CommutatorModel" "thrown" "I", .fieldLink RX10 117 "CommutatorModel" "onLine" "I"] ++ wsX100)
def wsX10_isBit : List Cond := .code yX10_isBit cX10_isBit 2 (some .boolean) :: ([.fieldLink RX10 117 "CommutatorModel" "onLine" "I", .methodLink RX10 84 yX10_isIn, .static yX10_isIn, .initialized RX10, .code yX10_isIn cX10_isIn 3 (some .boolean), .methodLink RX10 107 yX10_can, .instanceMethod yX10_can, .selects RX10 yX10_can yX10_can, .code yX10_can cX10_can 2 (some .boolean), .fieldLink RX10 78 "CommutatorModel" "thrown" "I"] ++ wsX100)
def wsX10_bit : List Cond := .code yX10_bit cX10_bit 2 (some .int) :: ([.fieldLink RX10 34 "CommutatorModel" "line" "[I", .methodLink RX10 123 yX10_isBit, .instanceMethod yX10_isBit, .selects RX10 yX10_isBit yX10_isBit, .initialized RX10, .code yX10_isBit cX10_isBit 2 (some .boolean), .fieldLink RX10 117 "CommutatorModel" "onLine" "I", .methodLink RX10 84 yX10_isIn, .static yX10_isIn, .code yX10_isIn cX10_isIn 3 (some .boolean), .methodLink RX10 107 yX10_can, .instanceMethod yX10_can, .selects RX10 yX10_can yX10_can, .code yX10_can cX10_can 2 (some .boolean), .fieldLink RX10 78 "CommutatorModel" "thrown" "I"] ++ wsX100)
def wsX10_flip : List Cond := .code yX10_flip cX10_flip 2 (some .int) :: ([.fieldLink RX10 34 "CommutatorModel" "line" "[I", .methodLink RX10 123 yX10_isBit, .instanceMethod yX10_isBit, .selects RX10 yX10_isBit yX10_isBit, .initialized RX10, .code yX10_isBit cX10_isBit 2 (some .boolean), .fieldLink RX10 117 "CommutatorModel" "onLine" "I", .methodLink RX10 84 yX10_isIn, .static yX10_isIn, .code yX10_isIn cX10_isIn 3 (some .boolean), .methodLink RX10 107 yX10_can, .instanceMethod yX10_can, .selects RX10 yX10_can yX10_can, .code yX10_can cX10_can 2 (some .boolean), .fieldLink RX10 78 "CommutatorModel" "thrown" "I"] ++ wsX100)
def wsX10_drop : List Cond := .code yX10_drop cX10_drop 4 none :: ([.fieldLink RX10 117 "CommutatorModel" "onLine" "I", .fieldLink RX10 34 "CommutatorModel" "line" "[I"] ++ wsX100)
def wsX10_cut : List Cond := .code yX10_cut cX10_cut 3 (some .int) :: ([.fieldLink RX10 117 "CommutatorModel" "onLine" "I", .methodLink RX10 107 yX10_can, .instanceMethod yX10_can, .selects RX10 yX10_can yX10_can, .initialized RX10, .code yX10_can cX10_can 2 (some .boolean), .fieldLink RX10 78 "CommutatorModel" "thrown" "I", .methodLink RX10 126 yX10_drop, .instanceMethod yX10_drop, .selects RX10 yX10_drop yX10_drop, .code yX10_drop cX10_drop 4 none, .fieldLink RX10 34 "CommutatorModel" "line" "[I"] ++ wsX100)
def wsX10_bits : List Cond := .code yX10_bits cX10_bits 5 (some .int) :: ([.fieldLink RX10 37 "CommutatorModel" "past" "[I"] ++ wsX100)
def wsX10_sample : List Cond := .code yX10_sample cX10_sample 4 none :: ([.fieldLink RX10 25 "CommutatorModel" "offset" "[I", .fieldLink RX10 40 "CommutatorModel" "value" "[I", .fieldLink RX10 75 "CommutatorModel" "begun" "I", .fieldLink RX10 7 "CommutatorModel" "width" "[I", .fieldLink RX10 43 "CommutatorModel" "time" "[I", .fieldLink RX10 136 "CommutatorModel" "number" "I", .fieldLink RX10 46 "CommutatorModel" "samples" "[I", .methodLink RX10 130 yX10_bits, .instanceMethod yX10_bits, .selects RX10 yX10_bits yX10_bits, .initialized RX10, .code yX10_bits cX10_bits 5 (some .int), .fieldLink RX10 37 "CommutatorModel" "past" "[I", .methodLink RX10 133 yX10_read, .instanceMethod yX10_read, .selects RX10 yX10_read yX10_read, .code yX10_read cX10_read 4 (some .int), .fieldLink RX10 13 "CommutatorModel" "convention" "[I"] ++ wsX100)
def wsX10_decodes_r1 : List Cond := [Cond.fieldLink RX10 75 "CommutatorModel" "begun" "I", Cond.fieldLink RX10 71 "CommutatorModel" "counter" "I", Cond.fieldLink RX10 139 "CommutatorModel" "repeats" "I", Cond.fieldLink RX10 81 "CommutatorModel" "points" "I", Cond.fieldLink RX10 49 "CommutatorModel" "missing" "[I", Cond.fieldLink RX10 19 "CommutatorModel" "samplesEach" "[I", Cond.fieldLink RX10 142 "CommutatorModel" "lost" "I", Cond.fieldLink RX10 136 "CommutatorModel" "number" "I", Cond.fieldLink RX10 145 "CommutatorModel" "frames" "I", Cond.methodLink RX10 130 yX10_bits, Cond.instanceMethod yX10_bits, Cond.selects RX10 yX10_bits yX10_bits, Cond.initialized RX10, Cond.code yX10_bits cX10_bits 5 (some .int), Cond.fieldLink RX10 37 "CommutatorModel" "past" "[I", Cond.methodLink RX10 88 yX10_isSent, Cond.instanceMethod yX10_isSent, Cond.selects RX10 yX10_isSent yX10_isSent, Cond.code yX10_isSent cX10_isSent 3 (some .boolean), Cond.fieldLink RX10 16 "CommutatorModel" "period" "[I", Cond.fieldLink RX10 22 "CommutatorModel" "phase" "[I", Cond.methodLink RX10 148 yX10_sample, Cond.instanceMethod yX10_sample, Cond.selects RX10 yX10_sample yX10_sample]
def wsX10_decodes_r2 : List Cond := [Cond.code yX10_sample cX10_sample 4 none, Cond.fieldLink RX10 25 "CommutatorModel" "offset" "[I", Cond.fieldLink RX10 40 "CommutatorModel" "value" "[I", Cond.fieldLink RX10 7 "CommutatorModel" "width" "[I", Cond.fieldLink RX10 43 "CommutatorModel" "time" "[I", Cond.fieldLink RX10 46 "CommutatorModel" "samples" "[I", Cond.methodLink RX10 133 yX10_read, Cond.instanceMethod yX10_read, Cond.selects RX10 yX10_read yX10_read, Cond.code yX10_read cX10_read 4 (some .int), Cond.fieldLink RX10 13 "CommutatorModel" "convention" "[I"]
def wsX10_decodes : List Cond := .code yX10_decodes cX10_decodes 5 (some .int) :: ((wsX10_decodes_r1 ++ wsX10_decodes_r2) ++ wsX100)
def wsX10_compares : List Cond := .code yX10_compares cX10_compares 3 none :: ([.fieldLink RX10 37 "CommutatorModel" "past" "[I", .fieldLink RX10 75 "CommutatorModel" "begun" "I", .fieldLink RX10 151 "CommutatorModel" "state" "I", .fieldLink RX10 154 "CommutatorModel" "matches" "I", .fieldLink RX10 157 "CommutatorModel" "misses" "I", .fieldLink RX10 160 "CommutatorModel" "isDecoded" "Z"] ++ wsX100)
def wsX10_takes_r1 : List Cond := [Cond.fieldLink RX10 37 "CommutatorModel" "past" "[I", Cond.fieldLink RX10 164 "CommutatorModel" "taken" "I", Cond.fieldLink RX10 151 "CommutatorModel" "state" "I", Cond.fieldLink RX10 154 "CommutatorModel" "matches" "I", Cond.fieldLink RX10 75 "CommutatorModel" "begun" "I", Cond.fieldLink RX10 160 "CommutatorModel" "isDecoded" "Z", Cond.methodLink RX10 130 yX10_bits, Cond.instanceMethod yX10_bits, Cond.selects RX10 yX10_bits yX10_bits, Cond.initialized RX10, Cond.code yX10_bits cX10_bits 5 (some .int), Cond.methodLink RX10 167 yX10_compares, Cond.instanceMethod yX10_compares, Cond.selects RX10 yX10_compares yX10_compares, Cond.code yX10_compares cX10_compares 3 none, Cond.fieldLink RX10 157 "CommutatorModel" "misses" "I", Cond.methodLink RX10 170 yX10_decodes, Cond.instanceMethod yX10_decodes, Cond.selects RX10 yX10_decodes yX10_decodes, Cond.code yX10_decodes cX10_decodes 5 (some .int), Cond.fieldLink RX10 71 "CommutatorModel" "counter" "I", Cond.fieldLink RX10 139 "CommutatorModel" "repeats" "I", Cond.fieldLink RX10 81 "CommutatorModel" "points" "I", Cond.fieldLink RX10 49 "CommutatorModel" "missing" "[I"]
def wsX10_takes_r2 : List Cond := [Cond.fieldLink RX10 19 "CommutatorModel" "samplesEach" "[I", Cond.fieldLink RX10 142 "CommutatorModel" "lost" "I", Cond.fieldLink RX10 136 "CommutatorModel" "number" "I", Cond.fieldLink RX10 145 "CommutatorModel" "frames" "I", Cond.methodLink RX10 88 yX10_isSent, Cond.instanceMethod yX10_isSent, Cond.selects RX10 yX10_isSent yX10_isSent, Cond.code yX10_isSent cX10_isSent 3 (some .boolean), Cond.fieldLink RX10 16 "CommutatorModel" "period" "[I", Cond.fieldLink RX10 22 "CommutatorModel" "phase" "[I", Cond.methodLink RX10 148 yX10_sample, Cond.instanceMethod yX10_sample, Cond.selects RX10 yX10_sample yX10_sample, Cond.code yX10_sample cX10_sample 4 none, Cond.fieldLink RX10 25 "CommutatorModel" "offset" "[I", Cond.fieldLink RX10 40 "CommutatorModel" "value" "[I", Cond.fieldLink RX10 7 "CommutatorModel" "width" "[I", Cond.fieldLink RX10 43 "CommutatorModel" "time" "[I", Cond.fieldLink RX10 46 "CommutatorModel" "samples" "[I", Cond.methodLink RX10 133 yX10_read, Cond.instanceMethod yX10_read, Cond.selects RX10 yX10_read yX10_read, Cond.code yX10_read cX10_read 4 (some .int), Cond.fieldLink RX10 13 "CommutatorModel" "convention" "[I"]
def wsX10_takes : List Cond := .code yX10_takes cX10_takes 2 (some .int) :: ((wsX10_takes_r1 ++ wsX10_takes_r2) ++ wsX100)
def wsX10_receive_r1 : List Cond := [Cond.fieldLink RX10 117 "CommutatorModel" "onLine" "I", Cond.fieldLink RX10 34 "CommutatorModel" "line" "[I", Cond.methodLink RX10 84 yX10_isIn, Cond.static yX10_isIn, Cond.initialized RX10, Cond.code yX10_isIn cX10_isIn 3 (some .boolean), Cond.methodLink RX10 107 yX10_can, Cond.instanceMethod yX10_can, Cond.selects RX10 yX10_can yX10_can, Cond.code yX10_can cX10_can 2 (some .boolean), Cond.fieldLink RX10 78 "CommutatorModel" "thrown" "I", Cond.methodLink RX10 174 yX10_takes, Cond.instanceMethod yX10_takes, Cond.selects RX10 yX10_takes yX10_takes, Cond.code yX10_takes cX10_takes 2 (some .int), Cond.fieldLink RX10 37 "CommutatorModel" "past" "[I", Cond.fieldLink RX10 164 "CommutatorModel" "taken" "I", Cond.fieldLink RX10 151 "CommutatorModel" "state" "I", Cond.fieldLink RX10 154 "CommutatorModel" "matches" "I", Cond.fieldLink RX10 75 "CommutatorModel" "begun" "I", Cond.fieldLink RX10 160 "CommutatorModel" "isDecoded" "Z", Cond.methodLink RX10 130 yX10_bits, Cond.instanceMethod yX10_bits, Cond.selects RX10 yX10_bits yX10_bits]
def wsX10_receive_r2 : List Cond := [Cond.code yX10_bits cX10_bits 5 (some .int), Cond.methodLink RX10 167 yX10_compares, Cond.instanceMethod yX10_compares, Cond.selects RX10 yX10_compares yX10_compares, Cond.code yX10_compares cX10_compares 3 none, Cond.fieldLink RX10 157 "CommutatorModel" "misses" "I", Cond.methodLink RX10 170 yX10_decodes, Cond.instanceMethod yX10_decodes, Cond.selects RX10 yX10_decodes yX10_decodes, Cond.code yX10_decodes cX10_decodes 5 (some .int), Cond.fieldLink RX10 71 "CommutatorModel" "counter" "I", Cond.fieldLink RX10 139 "CommutatorModel" "repeats" "I", Cond.fieldLink RX10 81 "CommutatorModel" "points" "I", Cond.fieldLink RX10 49 "CommutatorModel" "missing" "[I", Cond.fieldLink RX10 19 "CommutatorModel" "samplesEach" "[I", Cond.fieldLink RX10 142 "CommutatorModel" "lost" "I", Cond.fieldLink RX10 136 "CommutatorModel" "number" "I", Cond.fieldLink RX10 145 "CommutatorModel" "frames" "I", Cond.methodLink RX10 88 yX10_isSent, Cond.instanceMethod yX10_isSent, Cond.selects RX10 yX10_isSent yX10_isSent, Cond.code yX10_isSent cX10_isSent 3 (some .boolean), Cond.fieldLink RX10 16 "CommutatorModel" "period" "[I", Cond.fieldLink RX10 22 "CommutatorModel" "phase" "[I"]
def wsX10_receive_r3 : List Cond := [Cond.methodLink RX10 148 yX10_sample, Cond.instanceMethod yX10_sample, Cond.selects RX10 yX10_sample yX10_sample, Cond.code yX10_sample cX10_sample 4 none, Cond.fieldLink RX10 25 "CommutatorModel" "offset" "[I", Cond.fieldLink RX10 40 "CommutatorModel" "value" "[I", Cond.fieldLink RX10 7 "CommutatorModel" "width" "[I", Cond.fieldLink RX10 43 "CommutatorModel" "time" "[I", Cond.fieldLink RX10 46 "CommutatorModel" "samples" "[I", Cond.methodLink RX10 133 yX10_read, Cond.instanceMethod yX10_read, Cond.selects RX10 yX10_read yX10_read, Cond.code yX10_read cX10_read 4 (some .int), Cond.fieldLink RX10 13 "CommutatorModel" "convention" "[I", Cond.methodLink RX10 126 yX10_drop, Cond.instanceMethod yX10_drop, Cond.selects RX10 yX10_drop yX10_drop, Cond.code yX10_drop cX10_drop 4 none]
def wsX10_receive : List Cond := .code yX10_receive cX10_receive 5 (some .int) :: ((wsX10_receive_r1 ++ (wsX10_receive_r2 ++ wsX10_receive_r3)) ++ wsX100)
def wsX10_state : List Cond := .code yX10_state cX10_state 1 (some .int) :: ([.fieldLink RX10 78 "CommutatorModel" "thrown" "I", .fieldLink RX10 151 "CommutatorModel" "state" "I"] ++ wsX100)
def wsX10_taken : List Cond := .code yX10_taken cX10_taken 1 (some .int) :: ([.fieldLink RX10 78 "CommutatorModel" "thrown" "I", .fieldLink RX10 164 "CommutatorModel" "taken" "I"] ++ wsX100)
def wsX10_frames : List Cond := .code yX10_frames cX10_frames 1 (some .int) :: ([.fieldLink RX10 78 "CommutatorModel" "thrown" "I", .fieldLink RX10 145 "CommutatorModel" "frames" "I"] ++ wsX100)
def wsX10_lost : List Cond := .code yX10_lost cX10_lost 1 (some .int) :: ([.fieldLink RX10 78 "CommutatorModel" "thrown" "I", .fieldLink RX10 142 "CommutatorModel" "lost" "I"] ++ wsX100)
def wsX10_repeats : List Cond := .code yX10_repeats cX10_repeats 1 (some .int) :: ([.fieldLink RX10 78 "CommutatorModel" "thrown" "I", .fieldLink RX10 139 "CommutatorModel" "repeats" "I"] ++ wsX100)
def wsX10_number : List Cond := .code yX10_number cX10_number 1 (some .int) :: ([.fieldLink RX10 145 "CommutatorModel" "frames" "I", .fieldLink RX10 136 "CommutatorModel" "number" "I", .methodLink RX10 107 yX10_can, .instanceMethod yX10_can, .selects RX10 yX10_can yX10_can, .initialized RX10, .code yX10_can cX10_can 2 (some .boolean), .fieldLink RX10 78 "CommutatorModel" "thrown" "I"] ++ wsX100)
def wsX10_hasSample : List Cond := .code yX10_hasSample cX10_hasSample 2 (some .boolean) :: ([.fieldLink RX10 46 "CommutatorModel" "samples" "[I", .methodLink RX10 111 yX10_isPoint, .instanceMethod yX10_isPoint, .selects RX10 yX10_isPoint yX10_isPoint, .initialized RX10, .code yX10_isPoint cX10_isPoint 2 (some .boolean), .fieldLink RX10 81 "CommutatorModel" "points" "I", .methodLink RX10 84 yX10_isIn, .static yX10_isIn, .code yX10_isIn cX10_isIn 3 (some .boolean), .methodLink RX10 107 yX10_can, .instanceMethod yX10_can, .selects RX10 yX10_can yX10_can, .code yX10_can cX10_can 2 (some .boolean), .fieldLink RX10 78 "CommutatorModel" "thrown" "I"] ++ wsX100)
def wsX10_value : List Cond := .code yX10_value cX10_value 2 (some .int) :: ([.fieldLink RX10 40 "CommutatorModel" "value" "[I", .methodLink RX10 178 yX10_hasSample, .instanceMethod yX10_hasSample, .selects RX10 yX10_hasSample yX10_hasSample, .initialized RX10, .code yX10_hasSample cX10_hasSample 2 (some .boolean), .fieldLink RX10 46 "CommutatorModel" "samples" "[I", .methodLink RX10 111 yX10_isPoint, .instanceMethod yX10_isPoint, .selects RX10 yX10_isPoint yX10_isPoint, .code yX10_isPoint cX10_isPoint 2 (some .boolean), .fieldLink RX10 81 "CommutatorModel" "points" "I", .methodLink RX10 84 yX10_isIn, .static yX10_isIn, .code yX10_isIn cX10_isIn 3 (some .boolean), .methodLink RX10 107 yX10_can, .instanceMethod yX10_can, .selects RX10 yX10_can yX10_can, .code yX10_can cX10_can 2 (some .boolean), .fieldLink RX10 78 "CommutatorModel" "thrown" "I"] ++ wsX100)
def wsX10_time : List Cond := .code yX10_time cX10_time 2 (some .int) :: ([.fieldLink RX10 43 "CommutatorModel" "time" "[I", .methodLink RX10 178 yX10_hasSample, .instanceMethod yX10_hasSample, .selects RX10 yX10_hasSample yX10_hasSample, .initialized RX10, .code yX10_hasSample cX10_hasSample 2 (some .boolean), .fieldLink RX10 46 "CommutatorModel" "samples" "[I", .methodLink RX10 111 yX10_isPoint, .instanceMethod yX10_isPoint, .selects RX10 yX10_isPoint yX10_isPoint, .code yX10_isPoint cX10_isPoint 2 (some .boolean), .fieldLink RX10 81 "CommutatorModel" "points" "I", .methodLink RX10 84 yX10_isIn, .static yX10_isIn, .code yX10_isIn cX10_isIn 3 (some .boolean), .methodLink RX10 107 yX10_can, .instanceMethod yX10_can, .selects RX10 yX10_can yX10_can, .code yX10_can cX10_can 2 (some .boolean), .fieldLink RX10 78 "CommutatorModel" "thrown" "I"] ++ wsX100)
def wsX10_samples : List Cond := .code yX10_samples cX10_samples 2 (some .int) :: ([.fieldLink RX10 46 "CommutatorModel" "samples" "[I", .methodLink RX10 111 yX10_isPoint, .instanceMethod yX10_isPoint, .selects RX10 yX10_isPoint yX10_isPoint, .initialized RX10, .code yX10_isPoint cX10_isPoint 2 (some .boolean), .fieldLink RX10 81 "CommutatorModel" "points" "I", .methodLink RX10 84 yX10_isIn, .static yX10_isIn, .code yX10_isIn cX10_isIn 3 (some .boolean), .methodLink RX10 107 yX10_can, .instanceMethod yX10_can, .selects RX10 yX10_can yX10_can, .code yX10_can cX10_can 2 (some .boolean), .fieldLink RX10 78 "CommutatorModel" "thrown" "I"] ++ wsX100)
def wsX10_missing : List Cond := .code yX10_missing cX10_missing 2 (some .int) :: ([.fieldLink RX10 49 "CommutatorModel" "missing" "[I", .methodLink RX10 111 yX10_isPoint, .instanceMethod yX10_isPoint, .selects RX10 yX10_isPoint yX10_isPoint, .initialized RX10, .code yX10_isPoint cX10_isPoint 2 (some .boolean), .fieldLink RX10 81 "CommutatorModel" "points" "I", .methodLink RX10 84 yX10_isIn, .static yX10_isIn, .code yX10_isIn cX10_isIn 3 (some .boolean), .methodLink RX10 107 yX10_can, .instanceMethod yX10_can, .selects RX10 yX10_can yX10_can, .code yX10_can cX10_can 2 (some .boolean), .fieldLink RX10 78 "CommutatorModel" "thrown" "I"] ++ wsX100)
def wsX10_isOperand : List Cond := .code yX10_isOperand cX10_isOperand 1 (some .boolean) :: ([.methodLink RX10 84 yX10_isIn, .static yX10_isIn, .initialized RX10, .code yX10_isIn cX10_isIn 3 (some .boolean)])
def wsX10_comesTo : List Cond := .code yX10_comesTo cX10_comesTo 7 (some .boolean) :: ([.fieldLink RX10 52 "CommutatorModel" "operation" "[I", .fieldLink RX10 55 "CommutatorModel" "first" "[I", .fieldLink RX10 58 "CommutatorModel" "second" "[I"] ++ wsX100)
def wsX10_derive : List Cond := .code yX10_derive cX10_derive 6 none :: ([.fieldLink RX10 52 "CommutatorModel" "operation" "[I", .fieldLink RX10 55 "CommutatorModel" "first" "[I", .fieldLink RX10 58 "CommutatorModel" "second" "[I", .methodLink RX10 84 yX10_isIn, .static yX10_isIn, .initialized RX10, .code yX10_isIn cX10_isIn 3 (some .boolean), .methodLink RX10 181 yX10_isOperand, .static yX10_isOperand, .code yX10_isOperand cX10_isOperand 1 (some .boolean), .methodLink RX10 184 yX10_comesTo, .instanceMethod yX10_comesTo, .selects RX10 yX10_comesTo yX10_comesTo, .code yX10_comesTo cX10_comesTo 7 (some .boolean), .methodLink RX10 107 yX10_can, .instanceMethod yX10_can, .selects RX10 yX10_can yX10_can, .code yX10_can cX10_can 2 (some .boolean), .fieldLink RX10 78 "CommutatorModel" "thrown" "I"] ++ wsX100)
def wsX10_hasValue : List Cond := .code yX10_hasValue cX10_hasValue 2 (some .boolean) :: ([.fieldLink RX10 61 "CommutatorModel" "isKnown" "[Z", .fieldLink RX10 81 "CommutatorModel" "points" "I", .fieldLink RX10 46 "CommutatorModel" "samples" "[I"] ++ wsX100)
def wsX10_valueOf : List Cond := .code yX10_valueOf cX10_valueOf 2 (some .int) :: ([.fieldLink RX10 65 "CommutatorModel" "derived" "[I", .fieldLink RX10 40 "CommutatorModel" "value" "[I"] ++ wsX100)
def wsX10_timeOf : List Cond := .code yX10_timeOf cX10_timeOf 2 (some .int) :: ([.fieldLink RX10 68 "CommutatorModel" "derivedAt" "[I", .fieldLink RX10 43 "CommutatorModel" "time" "[I"] ++ wsX100)
def wsX10_made : List Cond := .code yX10_made cX10_made 7 (some .int) :: ([.constantLong RX10 187 (1000000), .constantLong RX10 189 (-1000000)])
def wsX10_derives_r1 : List Cond := [Cond.fieldLink RX10 61 "CommutatorModel" "isKnown" "[Z", Cond.fieldLink RX10 52 "CommutatorModel" "operation" "[I", Cond.fieldLink RX10 55 "CommutatorModel" "first" "[I", Cond.fieldLink RX10 58 "CommutatorModel" "second" "[I", Cond.fieldLink RX10 65 "CommutatorModel" "derived" "[I", Cond.fieldLink RX10 68 "CommutatorModel" "derivedAt" "[I", Cond.methodLink RX10 191 yX10_hasValue, Cond.instanceMethod yX10_hasValue, Cond.selects RX10 yX10_hasValue yX10_hasValue, Cond.initialized RX10, Cond.code yX10_hasValue cX10_hasValue 2 (some .boolean), Cond.fieldLink RX10 81 "CommutatorModel" "points" "I", Cond.fieldLink RX10 46 "CommutatorModel" "samples" "[I", Cond.methodLink RX10 194 yX10_valueOf, Cond.instanceMethod yX10_valueOf, Cond.selects RX10 yX10_valueOf yX10_valueOf, Cond.code yX10_valueOf cX10_valueOf 2 (some .int), Cond.fieldLink RX10 40 "CommutatorModel" "value" "[I", Cond.methodLink RX10 197 yX10_made, Cond.static yX10_made, Cond.code yX10_made cX10_made 7 (some .int), Cond.constantLong RX10 187 (1000000), Cond.constantLong RX10 189 (-1000000), Cond.methodLink RX10 201 yX10_timeOf]
def wsX10_derives_r2 : List Cond := [Cond.instanceMethod yX10_timeOf, Cond.selects RX10 yX10_timeOf yX10_timeOf, Cond.code yX10_timeOf cX10_timeOf 2 (some .int), Cond.fieldLink RX10 43 "CommutatorModel" "time" "[I"]
def wsX10_derives : List Cond := .code yX10_derives cX10_derives 3 none :: ((wsX10_derives_r1 ++ wsX10_derives_r2) ++ wsX100)
def wsX10_isDerived_r1 : List Cond := [Cond.fieldLink RX10 61 "CommutatorModel" "isKnown" "[Z", Cond.methodLink RX10 204 yX10_derives, Cond.instanceMethod yX10_derives, Cond.selects RX10 yX10_derives yX10_derives, Cond.initialized RX10, Cond.code yX10_derives cX10_derives 3 none, Cond.fieldLink RX10 52 "CommutatorModel" "operation" "[I", Cond.fieldLink RX10 55 "CommutatorModel" "first" "[I", Cond.fieldLink RX10 58 "CommutatorModel" "second" "[I", Cond.fieldLink RX10 65 "CommutatorModel" "derived" "[I", Cond.fieldLink RX10 68 "CommutatorModel" "derivedAt" "[I", Cond.methodLink RX10 191 yX10_hasValue, Cond.instanceMethod yX10_hasValue, Cond.selects RX10 yX10_hasValue yX10_hasValue, Cond.code yX10_hasValue cX10_hasValue 2 (some .boolean), Cond.fieldLink RX10 81 "CommutatorModel" "points" "I", Cond.fieldLink RX10 46 "CommutatorModel" "samples" "[I", Cond.methodLink RX10 194 yX10_valueOf, Cond.instanceMethod yX10_valueOf, Cond.selects RX10 yX10_valueOf yX10_valueOf, Cond.code yX10_valueOf cX10_valueOf 2 (some .int), Cond.fieldLink RX10 40 "CommutatorModel" "value" "[I", Cond.methodLink RX10 197 yX10_made, Cond.static yX10_made]
def wsX10_isDerived_r2 : List Cond := [Cond.code yX10_made cX10_made 7 (some .int), Cond.constantLong RX10 187 (1000000), Cond.constantLong RX10 189 (-1000000), Cond.methodLink RX10 201 yX10_timeOf, Cond.instanceMethod yX10_timeOf, Cond.selects RX10 yX10_timeOf yX10_timeOf, Cond.code yX10_timeOf cX10_timeOf 2 (some .int), Cond.fieldLink RX10 43 "CommutatorModel" "time" "[I", Cond.methodLink RX10 84 yX10_isIn, Cond.static yX10_isIn, Cond.code yX10_isIn cX10_isIn 3 (some .boolean), Cond.methodLink RX10 107 yX10_can, Cond.instanceMethod yX10_can, Cond.selects RX10 yX10_can yX10_can, Cond.code yX10_can cX10_can 2 (some .boolean), Cond.fieldLink RX10 78 "CommutatorModel" "thrown" "I"]
def wsX10_isDerived : List Cond := .code yX10_isDerived cX10_isDerived 2 (some .boolean) :: ((wsX10_isDerived_r1 ++ wsX10_isDerived_r2) ++ wsX100)
def wsX10_derivedValue_r1 : List Cond := [Cond.fieldLink RX10 65 "CommutatorModel" "derived" "[I", Cond.methodLink RX10 207 yX10_isDerived, Cond.instanceMethod yX10_isDerived, Cond.selects RX10 yX10_isDerived yX10_isDerived, Cond.initialized RX10, Cond.code yX10_isDerived cX10_isDerived 2 (some .boolean), Cond.fieldLink RX10 61 "CommutatorModel" "isKnown" "[Z", Cond.methodLink RX10 204 yX10_derives, Cond.instanceMethod yX10_derives, Cond.selects RX10 yX10_derives yX10_derives, Cond.code yX10_derives cX10_derives 3 none, Cond.fieldLink RX10 52 "CommutatorModel" "operation" "[I", Cond.fieldLink RX10 55 "CommutatorModel" "first" "[I", Cond.fieldLink RX10 58 "CommutatorModel" "second" "[I", Cond.fieldLink RX10 68 "CommutatorModel" "derivedAt" "[I", Cond.methodLink RX10 191 yX10_hasValue, Cond.instanceMethod yX10_hasValue, Cond.selects RX10 yX10_hasValue yX10_hasValue, Cond.code yX10_hasValue cX10_hasValue 2 (some .boolean), Cond.fieldLink RX10 81 "CommutatorModel" "points" "I", Cond.fieldLink RX10 46 "CommutatorModel" "samples" "[I", Cond.methodLink RX10 194 yX10_valueOf, Cond.instanceMethod yX10_valueOf, Cond.selects RX10 yX10_valueOf yX10_valueOf]
def wsX10_derivedValue_r2 : List Cond := [Cond.code yX10_valueOf cX10_valueOf 2 (some .int), Cond.fieldLink RX10 40 "CommutatorModel" "value" "[I", Cond.methodLink RX10 197 yX10_made, Cond.static yX10_made, Cond.code yX10_made cX10_made 7 (some .int), Cond.constantLong RX10 187 (1000000), Cond.constantLong RX10 189 (-1000000), Cond.methodLink RX10 201 yX10_timeOf, Cond.instanceMethod yX10_timeOf, Cond.selects RX10 yX10_timeOf yX10_timeOf, Cond.code yX10_timeOf cX10_timeOf 2 (some .int), Cond.fieldLink RX10 43 "CommutatorModel" "time" "[I", Cond.methodLink RX10 84 yX10_isIn, Cond.static yX10_isIn, Cond.code yX10_isIn cX10_isIn 3 (some .boolean), Cond.methodLink RX10 107 yX10_can, Cond.instanceMethod yX10_can, Cond.selects RX10 yX10_can yX10_can, Cond.code yX10_can cX10_can 2 (some .boolean), Cond.fieldLink RX10 78 "CommutatorModel" "thrown" "I"]
def wsX10_derivedValue : List Cond := .code yX10_derivedValue cX10_derivedValue 2 (some .int) :: ((wsX10_derivedValue_r1 ++ wsX10_derivedValue_r2) ++ wsX100)
def wsX10_derivedTime_r1 : List Cond := [Cond.fieldLink RX10 68 "CommutatorModel" "derivedAt" "[I", Cond.methodLink RX10 207 yX10_isDerived, Cond.instanceMethod yX10_isDerived, Cond.selects RX10 yX10_isDerived yX10_isDerived, Cond.initialized RX10, Cond.code yX10_isDerived cX10_isDerived 2 (some .boolean), Cond.fieldLink RX10 61 "CommutatorModel" "isKnown" "[Z", Cond.methodLink RX10 204 yX10_derives, Cond.instanceMethod yX10_derives, Cond.selects RX10 yX10_derives yX10_derives, Cond.code yX10_derives cX10_derives 3 none, Cond.fieldLink RX10 52 "CommutatorModel" "operation" "[I", Cond.fieldLink RX10 55 "CommutatorModel" "first" "[I", Cond.fieldLink RX10 58 "CommutatorModel" "second" "[I", Cond.fieldLink RX10 65 "CommutatorModel" "derived" "[I", Cond.methodLink RX10 191 yX10_hasValue, Cond.instanceMethod yX10_hasValue, Cond.selects RX10 yX10_hasValue yX10_hasValue, Cond.code yX10_hasValue cX10_hasValue 2 (some .boolean), Cond.fieldLink RX10 81 "CommutatorModel" "points" "I", Cond.fieldLink RX10 46 "CommutatorModel" "samples" "[I", Cond.methodLink RX10 194 yX10_valueOf, Cond.instanceMethod yX10_valueOf, Cond.selects RX10 yX10_valueOf yX10_valueOf]
def wsX10_derivedTime_r2 : List Cond := [Cond.code yX10_valueOf cX10_valueOf 2 (some .int), Cond.fieldLink RX10 40 "CommutatorModel" "value" "[I", Cond.methodLink RX10 197 yX10_made, Cond.static yX10_made, Cond.code yX10_made cX10_made 7 (some .int), Cond.constantLong RX10 187 (1000000), Cond.constantLong RX10 189 (-1000000), Cond.methodLink RX10 201 yX10_timeOf, Cond.instanceMethod yX10_timeOf, Cond.selects RX10 yX10_timeOf yX10_timeOf, Cond.code yX10_timeOf cX10_timeOf 2 (some .int), Cond.fieldLink RX10 43 "CommutatorModel" "time" "[I", Cond.methodLink RX10 84 yX10_isIn, Cond.static yX10_isIn, Cond.code yX10_isIn cX10_isIn 3 (some .boolean), Cond.methodLink RX10 107 yX10_can, Cond.instanceMethod yX10_can, Cond.selects RX10 yX10_can yX10_can, Cond.code yX10_can cX10_can 2 (some .boolean), Cond.fieldLink RX10 78 "CommutatorModel" "thrown" "I"]
def wsX10_derivedTime : List Cond := .code yX10_derivedTime cX10_derivedTime 2 (some .int) :: ((wsX10_derivedTime_r1 ++ wsX10_derivedTime_r2) ++ wsX100)
def wsX10_matchesAt : List Cond := .code yX10_matchesAt cX10_matchesAt 4 (some .int) :: ([.fieldLink RX10 164 "CommutatorModel" "taken" "I", .methodLink RX10 130 yX10_bits, .instanceMethod yX10_bits, .selects RX10 yX10_bits yX10_bits, .initialized RX10, .code yX10_bits cX10_bits 5 (some .int), .fieldLink RX10 37 "CommutatorModel" "past" "[I"] ++ wsX100)
def wsX10_matches : List Cond := .code yX10_matches cX10_matches 2 (some .int) :: ([.methodLink RX10 84 yX10_isIn, .static yX10_isIn, .initialized RX10, .code yX10_isIn cX10_isIn 3 (some .boolean), .methodLink RX10 107 yX10_can, .instanceMethod yX10_can, .selects RX10 yX10_can yX10_can, .code yX10_can cX10_can 2 (some .boolean), .fieldLink RX10 78 "CommutatorModel" "thrown" "I", .methodLink RX10 210 yX10_matchesAt, .instanceMethod yX10_matchesAt, .selects RX10 yX10_matchesAt yX10_matchesAt, .code yX10_matchesAt cX10_matchesAt 4 (some .int), .fieldLink RX10 164 "CommutatorModel" "taken" "I", .methodLink RX10 130 yX10_bits, .instanceMethod yX10_bits, .selects RX10 yX10_bits yX10_bits, .code yX10_bits cX10_bits 5 (some .int), .fieldLink RX10 37 "CommutatorModel" "past" "[I"] ++ wsX100)
def wsX10_bestOffset : List Cond := .code yX10_bestOffset cX10_bestOffset 3 (some .int) :: ([.fieldLink RX10 78 "CommutatorModel" "thrown" "I", .methodLink RX10 210 yX10_matchesAt, .instanceMethod yX10_matchesAt, .selects RX10 yX10_matchesAt yX10_matchesAt, .initialized RX10, .code yX10_matchesAt cX10_matchesAt 4 (some .int), .fieldLink RX10 164 "CommutatorModel" "taken" "I", .methodLink RX10 130 yX10_bits, .instanceMethod yX10_bits, .selects RX10 yX10_bits yX10_bits, .code yX10_bits cX10_bits 5 (some .int), .fieldLink RX10 37 "CommutatorModel" "past" "[I"] ++ wsX100)
def wsJ9_max_7cf53 : List Cond := .code yJ9_max_7cf53 cJ9_max_7cf53 2 (some .int) :: ([])
def wsJ9_max_f86c9 : List Cond := .code yJ9_max_f86c9 cJ9_max_f86c9 4 (some .long) :: ([])
def wsJ9_min_7cf53 : List Cond := .code yJ9_min_7cf53 cJ9_min_7cf53 2 (some .int) :: ([])
def wsJ9_min_f86c9 : List Cond := .code yJ9_min_f86c9 cJ9_min_f86c9 4 (some .long) :: ([])
def wsL_addPoint_r1 : List Cond := [Cond.classLink RL 13 "java/lang/IllegalArgumentException", Cond.classLink RL 15 "java/lang/IllegalStateException", Cond.methodLink RL 7 yX9_addPoint, Cond.instanceMethod yX9_addPoint, Cond.selects RX9 yX9_addPoint yX9_addPoint, Cond.initialized RX9, Cond.code yX9_addPoint cX9_addPoint 5 (some .int), Cond.classLink RX9 55 "java/lang/IllegalArgumentException", Cond.initialized "java/lang/IllegalArgumentException", Cond.classLink RX9 65 "java/lang/IllegalStateException", Cond.initialized "java/lang/IllegalStateException", Cond.fieldLink RX9 26 "Commutator" "sender" "LCommutator$Sender;", Cond.fieldLink RX9 10 "Commutator" "table" "LCommutator$PointTable;", Cond.methodLink RX9 51 yX9_isPointAllowed, Cond.static yX9_isPointAllowed, Cond.code yX9_isPointAllowed cX9_isPointAllowed 5 (some .boolean), Cond.methodLink RX9 62 yX5_add, Cond.instanceMethod yX5_add, Cond.selects RX5 yX5_add yX5_add, Cond.initialized RX5, Cond.code yX5_add cX5_add 10 (some .boolean), Cond.fieldLink RX5 21 "Commutator$PointTable" "count" "I", Cond.fieldLink RX5 11 "Commutator$PointTable" "rows" "[LCommutator$Point;", Cond.classLink RX5 9 RX4]
def wsL_addPoint_r2 : List Cond := [Cond.instantiable RX4 10, Cond.initialized RX4, Cond.methodLink RX5 25 yX5_bitsAt, Cond.static yX5_bitsAt, Cond.code yX5_bitsAt cX5_bitsAt 5 (some .long), Cond.methodLink RX5 29 yX5_isFree, Cond.instanceMethod yX5_isFree, Cond.selects RX5 yX5_isFree yX5_isFree, Cond.code yX5_isFree cX5_isFree 6 (some .boolean), Cond.fieldLink RX5 17 "Commutator$PointTable" "usedBits" "[J", Cond.methodLink RX5 33 yX5_use, Cond.instanceMethod yX5_use, Cond.selects RX5 yX5_use yX5_use, Cond.code yX5_use cX5_use 6 none, Cond.methodLink RX5 37 yX4_init, Cond.instanceMethod yX4_init, Cond.code yX4_init cX4_init 7 none, Cond.methodLink RX4 3 objectInit, Cond.instanceMethod objectInit, Cond.code objectInit ⟨#[0xb1]⟩ 1 none, Cond.fieldLink RX4 9 "Commutator$Point" "width" "I", Cond.fieldLink RX4 15 "Commutator$Point" "convention" "I", Cond.fieldLink RX4 18 "Commutator$Point" "period" "I", Cond.fieldLink RX4 21 "Commutator$Point" "twice" "Z"]
def wsL_addPoint_r3 : List Cond := [Cond.fieldLink RX4 25 "Commutator$Point" "phase" "I", Cond.fieldLink RX4 28 "Commutator$Point" "offset" "I", Cond.classLink RX4 31 RX6, Cond.instantiable RX6 3, Cond.initialized RX6, Cond.fieldLink RX4 34 "Commutator$Point" "latest" "LCommutator$Reading;", Cond.instanceMethod yX6_init, Cond.code yX6_init cX6_init 1 none, Cond.methodLink RX6 1 objectInit]
def wsL_addPoint : List Cond := .codeWith yL_addPoint cL_addPoint 7 (some .int) [(0, 14, 17, 13), (0, 14, 21, 15)] :: ((wsL_addPoint_r1 ++ (wsL_addPoint_r2 ++ wsL_addPoint_r3)) ++ wsX90 ++ wsX70 ++ wsX50 ++ wsX40 ++ wsX60 ++ (vx_at0 RX9 57 "java/lang/IllegalArgumentException" ["java/lang/RuntimeException", "java/lang/Exception"]).filter goodWord ++ (vx_at0 RX9 67 "java/lang/IllegalStateException" ["java/lang/RuntimeException", "java/lang/Exception"]).filter goodWord)
def wsL_place : List Cond := .codeWith yL_place cL_place 4 (some .int) [(0, 9, 12, 21)] :: ([.classLink RL 21 "java/lang/IndexOutOfBoundsException", .methodLink RL 17 yX9_place, .instanceMethod yX9_place, .selects RX9 yX9_place yX9_place, .initialized RX9, .code yX9_place cX9_place 3 (some .int), .methodLink RX9 71 yX9_existingPoint, .instanceMethod yX9_existingPoint, .selects RX9 yX9_existingPoint yX9_existingPoint, .code yX9_existingPoint cX9_existingPoint 3 (some (.object "Commutator$Point")), .classLink RX9 107 "java/lang/IndexOutOfBoundsException", .initialized "java/lang/IndexOutOfBoundsException", .fieldLink RX9 10 "Commutator" "table" "LCommutator$PointTable;", .methodLink RX9 202 yX5_at, .instanceMethod yX5_at, .selects RX5 yX5_at yX5_at, .initialized RX5, .code yX5_at cX5_at 2 (some (.object "Commutator$Point")), .fieldLink RX5 21 "Commutator$PointTable" "count" "I", .fieldLink RX5 11 "Commutator$PointTable" "rows" "[LCommutator$Point;"] ++ wsX40 ++ wsX90 ++ wsX50 ++ (vx_at0 RX9 109 "java/lang/IndexOutOfBoundsException" ["java/lang/RuntimeException", "java/lang/Exception"]).filter goodWord)
def wsL_put_r1 : List Cond := [Cond.classLink RL 21 "java/lang/IndexOutOfBoundsException", Cond.classLink RL 13 "java/lang/IllegalArgumentException", Cond.methodLink RL 23 yX9_put, Cond.instanceMethod yX9_put, Cond.selects RX9 yX9_put yX9_put, Cond.initialized RX9, Cond.code yX9_put cX9_put 5 (some .int), Cond.classLink RX9 55 "java/lang/IllegalArgumentException", Cond.initialized "java/lang/IllegalArgumentException", Cond.methodLink RX9 71 yX9_existingPoint, Cond.instanceMethod yX9_existingPoint, Cond.selects RX9 yX9_existingPoint yX9_existingPoint, Cond.code yX9_existingPoint cX9_existingPoint 3 (some (.object "Commutator$Point")), Cond.classLink RX9 107 "java/lang/IndexOutOfBoundsException", Cond.initialized "java/lang/IndexOutOfBoundsException", Cond.fieldLink RX9 10 "Commutator" "table" "LCommutator$PointTable;", Cond.methodLink RX9 202 yX5_at, Cond.instanceMethod yX5_at, Cond.selects RX5 yX5_at yX5_at, Cond.initialized RX5, Cond.code yX5_at cX5_at 2 (some (.object "Commutator$Point")), Cond.fieldLink RX5 21 "Commutator$PointTable" "count" "I", Cond.fieldLink RX5 11 "Commutator$PointTable" "rows" "[LCommutator$Point;", Cond.methodLink RX9 87 yX4_lowest]
def wsL_put_r2 : List Cond := [Cond.instanceMethod yX4_lowest, Cond.selects RX4 yX4_lowest yX4_lowest, Cond.initialized RX4, Cond.code yX4_lowest cX4_lowest 1 (some .int), Cond.fieldLink RX4 15 "Commutator$Point" "convention" "I", Cond.methodLink RX4 38 yX4_signWeight, Cond.instanceMethod yX4_signWeight, Cond.selects RX4 yX4_signWeight yX4_signWeight, Cond.code yX4_signWeight cX4_signWeight 1 (some .int), Cond.fieldLink RX4 9 "Commutator$Point" "width" "I", Cond.methodLink RX9 90 yX4_highest, Cond.instanceMethod yX4_highest, Cond.selects RX4 yX4_highest yX4_highest, Cond.code yX4_highest cX4_highest 1 (some .int)]
def wsL_put : List Cond := .codeWith yL_put cL_put 5 (some .int) [(0, 10, 13, 21), (0, 10, 17, 13)] :: ((wsL_put_r1 ++ wsL_put_r2) ++ wsX40 ++ wsX90 ++ wsX50 ++ (vx_at0 RX9 57 "java/lang/IllegalArgumentException" ["java/lang/RuntimeException", "java/lang/Exception"]).filter goodWord ++ (vx_at0 RX9 109 "java/lang/IndexOutOfBoundsException" ["java/lang/RuntimeException", "java/lang/Exception"]).filter goodWord)
def wsL_send_r1 : List Cond := [Cond.classLink RL 13 "java/lang/IllegalArgumentException", Cond.classLink RL 15 "java/lang/IllegalStateException", Cond.methodLink RL 27 yX9_send, Cond.instanceMethod yX9_send, Cond.selects RX9 yX9_send yX9_send, Cond.initialized RX9, Cond.code yX9_send cX9_send 3 (some .int), Cond.classLink RX9 55 "java/lang/IllegalArgumentException", Cond.initialized "java/lang/IllegalArgumentException", Cond.classLink RX9 65 "java/lang/IllegalStateException", Cond.initialized "java/lang/IllegalStateException", Cond.fieldLink RX9 26 "Commutator" "sender" "LCommutator$Sender;", Cond.fieldLink RX9 10 "Commutator" "table" "LCommutator$PointTable;", Cond.fieldLink RX9 19 "Commutator" "line" "LCommutator$Line;", Cond.methodLink RX9 96 yX7_sendWord, Cond.instanceMethod yX7_sendWord, Cond.selects RX7 yX7_sendWord yX7_sendWord, Cond.initialized RX7, Cond.code yX7_sendWord cX7_sendWord 7 none, Cond.fieldLink RX7 9 "Commutator$Sender" "wordsSent" "I", Cond.constant RX7 15 (47104), Cond.fieldLink RX7 16 "Commutator$Sender" "frame" "J", Cond.methodLink RX7 20 yX7_packSamples, Cond.instanceMethod yX7_packSamples]
def wsL_send_r2 : List Cond := [Cond.selects RX7 yX7_packSamples yX7_packSamples, Cond.code yX7_packSamples cX7_packSamples 7 none, Cond.methodLink RX7 35 yX5_at, Cond.instanceMethod yX5_at, Cond.selects RX5 yX5_at yX5_at, Cond.initialized RX5, Cond.code yX5_at cX5_at 2 (some (.object "Commutator$Point")), Cond.fieldLink RX5 21 "Commutator$PointTable" "count" "I", Cond.fieldLink RX5 11 "Commutator$PointTable" "rows" "[LCommutator$Point;", Cond.methodLink RX7 39 yX4_isSentIn, Cond.instanceMethod yX4_isSentIn, Cond.selects RX4 yX4_isSentIn yX4_isSentIn, Cond.initialized RX4, Cond.code yX4_isSentIn cX4_isSentIn 2 (some .boolean), Cond.fieldLink RX4 18 "Commutator$Point" "period" "I", Cond.fieldLink RX4 25 "Commutator$Point" "phase" "I", Cond.methodLink RX7 45 yX4_samplesInFrame, Cond.instanceMethod yX4_samplesInFrame, Cond.selects RX4 yX4_samplesInFrame yX4_samplesInFrame, Cond.code yX4_samplesInFrame cX4_samplesInFrame 1 (some .int), Cond.fieldLink RX4 21 "Commutator$Point" "twice" "Z", Cond.methodLink RX7 49 yX4_firstBit, Cond.instanceMethod yX4_firstBit, Cond.selects RX4 yX4_firstBit yX4_firstBit]
def wsL_send_r3 : List Cond := [Cond.code yX4_firstBit cX4_firstBit 2 (some .int), Cond.fieldLink RX4 28 "Commutator$Point" "offset" "I", Cond.methodLink RX7 56 yX4_encode, Cond.instanceMethod yX4_encode, Cond.selects RX4 yX4_encode yX4_encode, Cond.code yX4_encode cX4_encode 2 (some .int), Cond.fieldLink RX4 15 "Commutator$Point" "convention" "I", Cond.fieldLink RX4 9 "Commutator$Point" "width" "I", Cond.methodLink RX4 38 yX4_signWeight, Cond.instanceMethod yX4_signWeight, Cond.selects RX4 yX4_signWeight yX4_signWeight, Cond.code yX4_signWeight cX4_signWeight 1 (some .int), Cond.methodLink RX7 59 yX4_shift, Cond.instanceMethod yX4_shift, Cond.selects RX4 yX4_shift yX4_shift, Cond.code yX4_shift cX4_shift 2 (some .int), Cond.methodLink RX4 42 yX4_firstBit, Cond.methodLink RX7 24 yX3_append, Cond.instanceMethod yX3_append, Cond.selects RX3 yX3_append yX3_append, Cond.initialized RX3, Cond.code yX3_append cX3_append 2 none, Cond.fieldLink RX3 15 "Commutator$Line" "end" "I", Cond.fieldLink RX3 9 "Commutator$Line" "bits" "[I"]
def wsL_send_r4 : List Cond := [Cond.methodLink RX9 100 yX3_length, Cond.instanceMethod yX3_length, Cond.selects RX3 yX3_length yX3_length, Cond.code yX3_length cX3_length 1 (some .int), Cond.fieldLink RX3 19 "Commutator$Line" "head" "I"]
def wsL_send : List Cond := .codeWith yL_send cL_send 4 (some .int) [(0, 9, 12, 13), (0, 9, 15, 15)] :: ((wsL_send_r1 ++ (wsL_send_r2 ++ (wsL_send_r3 ++ wsL_send_r4))) ++ wsX90 ++ wsX70 ++ wsX50 ++ wsX40 ++ wsX30 ++ (vx_at0 RX9 57 "java/lang/IllegalArgumentException" ["java/lang/RuntimeException", "java/lang/Exception"]).filter goodWord ++ (vx_at0 RX9 67 "java/lang/IllegalStateException" ["java/lang/RuntimeException", "java/lang/Exception"]).filter goodWord)
def wsL_bit_r1 : List Cond := [Cond.classLink RL 21 "java/lang/IndexOutOfBoundsException", Cond.methodLink RL 30 yX9_bit, Cond.instanceMethod yX9_bit, Cond.selects RX9 yX9_bit yX9_bit, Cond.initialized RX9, Cond.code yX9_bit cX9_bit 2 (some .int), Cond.classLink RX9 107 "java/lang/IndexOutOfBoundsException", Cond.initialized "java/lang/IndexOutOfBoundsException", Cond.fieldLink RX9 19 "Commutator" "line" "LCommutator$Line;", Cond.methodLink RX9 103 yX3_holds, Cond.instanceMethod yX3_holds, Cond.selects RX3 yX3_holds yX3_holds, Cond.initialized RX3, Cond.code yX3_holds cX3_holds 3 (some .boolean), Cond.methodLink RX3 22 yX3_length, Cond.instanceMethod yX3_length, Cond.selects RX3 yX3_length yX3_length, Cond.code yX3_length cX3_length 1 (some .int), Cond.fieldLink RX3 15 "Commutator$Line" "end" "I", Cond.fieldLink RX3 19 "Commutator$Line" "head" "I", Cond.methodLink RX9 110 yX3_look, Cond.instanceMethod yX3_look, Cond.selects RX3 yX3_look yX3_look, Cond.code yX3_look cX3_look 2 (some .int)]
def wsL_bit_r2 : List Cond := [Cond.fieldLink RX3 9 "Commutator$Line" "bits" "[I", Cond.methodLink RX3 26 yX3_holds]
def wsL_bit : List Cond := .codeWith yL_bit cL_bit 4 (some .int) [(0, 9, 12, 21)] :: ((wsL_bit_r1 ++ wsL_bit_r2) ++ wsX90 ++ wsX30 ++ (vx_at0 RX9 109 "java/lang/IndexOutOfBoundsException" ["java/lang/RuntimeException", "java/lang/Exception"]).filter goodWord)
def wsL_flip_r1 : List Cond := [Cond.classLink RL 21 "java/lang/IndexOutOfBoundsException", Cond.methodLink RL 33 yX9_flip, Cond.instanceMethod yX9_flip, Cond.selects RX9 yX9_flip yX9_flip, Cond.initialized RX9, Cond.code yX9_flip cX9_flip 2 (some .int), Cond.classLink RX9 107 "java/lang/IndexOutOfBoundsException", Cond.initialized "java/lang/IndexOutOfBoundsException", Cond.fieldLink RX9 19 "Commutator" "line" "LCommutator$Line;", Cond.methodLink RX9 103 yX3_holds, Cond.instanceMethod yX3_holds, Cond.selects RX3 yX3_holds yX3_holds, Cond.initialized RX3, Cond.code yX3_holds cX3_holds 3 (some .boolean), Cond.methodLink RX3 22 yX3_length, Cond.instanceMethod yX3_length, Cond.selects RX3 yX3_length yX3_length, Cond.code yX3_length cX3_length 1 (some .int), Cond.fieldLink RX3 15 "Commutator$Line" "end" "I", Cond.fieldLink RX3 19 "Commutator$Line" "head" "I", Cond.methodLink RX9 114 yX3_turnOver, Cond.instanceMethod yX3_turnOver, Cond.selects RX3 yX3_turnOver yX3_turnOver, Cond.code yX3_turnOver cX3_turnOver 2 (some .int)]
def wsL_flip_r2 : List Cond := [Cond.fieldLink RX3 9 "Commutator$Line" "bits" "[I", Cond.methodLink RX3 26 yX3_holds]
def wsL_flip : List Cond := .codeWith yL_flip cL_flip 4 (some .int) [(0, 9, 12, 21)] :: ((wsL_flip_r1 ++ wsL_flip_r2) ++ wsX90 ++ wsX30 ++ (vx_at0 RX9 109 "java/lang/IndexOutOfBoundsException" ["java/lang/RuntimeException", "java/lang/Exception"]).filter goodWord)
def wsL_cut_r1 : List Cond := [Cond.classLink RL 13 "java/lang/IllegalArgumentException", Cond.classLink RL 21 "java/lang/IndexOutOfBoundsException", Cond.methodLink RL 36 yX9_cut, Cond.instanceMethod yX9_cut, Cond.selects RX9 yX9_cut yX9_cut, Cond.initialized RX9, Cond.code yX9_cut cX9_cut 3 (some .int), Cond.classLink RX9 55 "java/lang/IllegalArgumentException", Cond.initialized "java/lang/IllegalArgumentException", Cond.classLink RX9 107 "java/lang/IndexOutOfBoundsException", Cond.initialized "java/lang/IndexOutOfBoundsException", Cond.fieldLink RX9 19 "Commutator" "line" "LCommutator$Line;", Cond.methodLink RX9 103 yX3_holds, Cond.instanceMethod yX3_holds, Cond.selects RX3 yX3_holds yX3_holds, Cond.initialized RX3, Cond.code yX3_holds cX3_holds 3 (some .boolean), Cond.methodLink RX3 22 yX3_length, Cond.instanceMethod yX3_length, Cond.selects RX3 yX3_length yX3_length, Cond.code yX3_length cX3_length 1 (some .int), Cond.fieldLink RX3 15 "Commutator$Line" "end" "I", Cond.fieldLink RX3 19 "Commutator$Line" "head" "I", Cond.methodLink RX9 117 yX3_remove]
def wsL_cut_r2 : List Cond := [Cond.instanceMethod yX3_remove, Cond.selects RX3 yX3_remove yX3_remove, Cond.code yX3_remove cX3_remove 4 none, Cond.fieldLink RX3 9 "Commutator$Line" "bits" "[I", Cond.methodLink RX3 30 arraycopyName, Cond.native arraycopyName, Cond.static arraycopyName, Cond.initialized "java/lang/System", Cond.methodLink RX3 26 yX3_holds, Cond.methodLink RX9 100 yX3_length]
def wsL_cut : List Cond := .codeWith yL_cut cL_cut 5 (some .int) [(0, 10, 13, 13), (0, 10, 17, 21)] :: ((wsL_cut_r1 ++ wsL_cut_r2) ++ wsX90 ++ wsX30 ++ (vx_at0 RX9 57 "java/lang/IllegalArgumentException" ["java/lang/RuntimeException", "java/lang/Exception"]).filter goodWord ++ (vx_at0 RX9 109 "java/lang/IndexOutOfBoundsException" ["java/lang/RuntimeException", "java/lang/Exception"]).filter goodWord)
def wsL_receive_r1 : List Cond := [Cond.classLink RL 13 "java/lang/IllegalArgumentException", Cond.methodLink RL 39 yX9_receive, Cond.instanceMethod yX9_receive, Cond.selects RX9 yX9_receive yX9_receive, Cond.initialized RX9, Cond.code yX9_receive cX9_receive 5 (some .int), Cond.classLink RX9 55 "java/lang/IllegalArgumentException", Cond.initialized "java/lang/IllegalArgumentException", Cond.fieldLink RX9 40 "Commutator" "decoder" "LCommutator$Decoder;", Cond.fieldLink RX9 19 "Commutator" "line" "LCommutator$Line;", Cond.methodLink RX9 124 Lib.Math.min.name, Cond.static Lib.Math.min.name, Cond.initialized "java/lang/Math", Cond.code Lib.Math.min.name Lib.Math.min.code 2 (some .int), Cond.fieldLink RX9 33 "Commutator" "synchroniser" "LCommutator$Synchroniser;", Cond.fieldLink RX9 10 "Commutator" "table" "LCommutator$PointTable;", Cond.methodLink RX9 100 yX3_length, Cond.instanceMethod yX3_length, Cond.selects RX3 yX3_length yX3_length, Cond.initialized RX3, Cond.code yX3_length cX3_length 1 (some .int), Cond.fieldLink RX3 15 "Commutator$Line" "end" "I", Cond.fieldLink RX3 19 "Commutator$Line" "head" "I", Cond.methodLink RX9 130 yX3_takeFirst]
def wsL_receive_r2 : List Cond := [Cond.instanceMethod yX3_takeFirst, Cond.selects RX3 yX3_takeFirst yX3_takeFirst, Cond.code yX3_takeFirst cX3_takeFirst 2 (some .int), Cond.fieldLink RX3 9 "Commutator$Line" "bits" "[I", Cond.methodLink RX3 26 yX3_holds, Cond.instanceMethod yX3_holds, Cond.selects RX3 yX3_holds yX3_holds, Cond.code yX3_holds cX3_holds 3 (some .boolean), Cond.methodLink RX3 22 yX3_length, Cond.methodLink RX9 133 yX8_take, Cond.instanceMethod yX8_take, Cond.selects RX8 yX8_take yX8_take, Cond.initialized RX8, Cond.code yX8_take cX8_take 2 (some .boolean), Cond.fieldLink RX8 19 "Commutator$Synchroniser" "latest" "J", Cond.fieldLink RX8 23 "Commutator$Synchroniser" "takenBits" "I", Cond.fieldLink RX8 15 "Commutator$Synchroniser" "syncWords" "[I", Cond.fieldLink RX8 9 "Commutator$Synchroniser" "mode" "I", Cond.fieldLink RX8 33 "Commutator$Synchroniser" "bitsOfFrame" "I", Cond.methodLink RX8 26 yX8_isSyncWord, Cond.instanceMethod yX8_isSyncWord, Cond.selects RX8 yX8_isSyncWord yX8_isSyncWord, Cond.code yX8_isSyncWord cX8_isSyncWord 1 (some .boolean), Cond.methodLink RX8 39 yX8_latestWord]
def wsL_receive_r3 : List Cond := [Cond.instanceMethod yX8_latestWord, Cond.selects RX8 yX8_latestWord yX8_latestWord, Cond.code yX8_latestWord cX8_latestWord 1 (some .int), Cond.methodLink RX8 30 yX8_search, Cond.instanceMethod yX8_search, Cond.selects RX8 yX8_search yX8_search, Cond.code yX8_search cX8_search 1 none, Cond.fieldLink RX8 43 "Commutator$Synchroniser" "matchCount" "I", Cond.methodLink RX8 36 yX8_judgeSyncWord, Cond.instanceMethod yX8_judgeSyncWord, Cond.selects RX8 yX8_judgeSyncWord yX8_judgeSyncWord, Cond.code yX8_judgeSyncWord cX8_judgeSyncWord 1 none, Cond.methodLink RX8 46 yX8_check, Cond.instanceMethod yX8_check, Cond.selects RX8 yX8_check yX8_check, Cond.code yX8_check cX8_check 1 none, Cond.fieldLink RX8 52 "Commutator$Synchroniser" "missCount" "I", Cond.methodLink RX8 49 yX8_keepLock, Cond.instanceMethod yX8_keepLock, Cond.selects RX8 yX8_keepLock yX8_keepLock, Cond.code yX8_keepLock cX8_keepLock 1 none, Cond.methodLink RX8 55 yJ6_bitCount_0f7a4, Cond.static yJ6_bitCount_0f7a4, Cond.initialized RJ6]
def wsL_receive_r4 : List Cond := [Cond.code yJ6_bitCount_0f7a4 cJ6_bitCount_0f7a4 1 (some .int), Cond.constant RJ6 265 (1431655765), Cond.constant RJ6 266 (858993459), Cond.constant RJ6 267 (252645135), Cond.methodLink RX9 141 yX0_decode, Cond.instanceMethod yX0_decode, Cond.selects RX0 yX0_decode yX0_decode, Cond.initialized RX0, Cond.code yX0_decode cX0_decode 6 none, Cond.fieldLink RX0 9 "Commutator$Decoder" "usedFrames" "I", Cond.fieldLink RX0 15 "Commutator$Decoder" "latestNumber" "I", Cond.fieldLink RX0 18 "Commutator$Decoder" "latestCounter" "I", Cond.fieldLink RX0 21 "Commutator$Decoder" "repeatedFrames" "I", Cond.methodLink RX0 24 yX0_noteLost, Cond.instanceMethod yX0_noteLost, Cond.selects RX0 yX0_noteLost yX0_noteLost, Cond.code yX0_noteLost cX0_noteLost 6 none, Cond.fieldLink RX0 32 "Commutator$Decoder" "lostFrames" "I", Cond.methodLink RX0 40 yX5_at, Cond.instanceMethod yX5_at, Cond.selects RX5 yX5_at yX5_at, Cond.initialized RX5, Cond.code yX5_at cX5_at 2 (some (.object "Commutator$Point")), Cond.fieldLink RX5 21 "Commutator$PointTable" "count" "I"]
def wsL_receive_r5 : List Cond := [Cond.fieldLink RX5 11 "Commutator$PointTable" "rows" "[LCommutator$Point;", Cond.methodLink RX0 44 yX4_isSentIn, Cond.instanceMethod yX4_isSentIn, Cond.selects RX4 yX4_isSentIn yX4_isSentIn, Cond.initialized RX4, Cond.code yX4_isSentIn cX4_isSentIn 2 (some .boolean), Cond.fieldLink RX4 18 "Commutator$Point" "period" "I", Cond.fieldLink RX4 25 "Commutator$Point" "phase" "I", Cond.methodLink RX0 50 yX4_noteMissing, Cond.instanceMethod yX4_noteMissing, Cond.selects RX4 yX4_noteMissing yX4_noteMissing, Cond.code yX4_noteMissing cX4_noteMissing 1 none, Cond.fieldLink RX4 62 "Commutator$Point" "missingCount" "I", Cond.methodLink RX4 46 yX4_samplesInFrame, Cond.instanceMethod yX4_samplesInFrame, Cond.selects RX4 yX4_samplesInFrame yX4_samplesInFrame, Cond.code yX4_samplesInFrame cX4_samplesInFrame 1 (some .int), Cond.fieldLink RX4 21 "Commutator$Point" "twice" "Z", Cond.methodLink RX0 28 yX0_giveSamples, Cond.instanceMethod yX0_giveSamples, Cond.selects RX0 yX0_giveSamples yX0_giveSamples, Cond.code yX0_giveSamples cX0_giveSamples 6 none, Cond.methodLink RX0 53 yX4_readFrom, Cond.instanceMethod yX4_readFrom]
def wsL_receive_r6 : List Cond := [Cond.selects RX4 yX4_readFrom yX4_readFrom, Cond.code yX4_readFrom cX4_readFrom 6 none, Cond.fieldLink RX4 9 "Commutator$Point" "width" "I", Cond.fieldLink RX4 34 "Commutator$Point" "latest" "LCommutator$Reading;", Cond.fieldLink RX4 59 "Commutator$Point" "sampleCount" "I", Cond.methodLink RX4 49 yX4_shift, Cond.instanceMethod yX4_shift, Cond.selects RX4 yX4_shift yX4_shift, Cond.code yX4_shift cX4_shift 2 (some .int), Cond.methodLink RX4 42 yX4_firstBit, Cond.instanceMethod yX4_firstBit, Cond.selects RX4 yX4_firstBit yX4_firstBit, Cond.code yX4_firstBit cX4_firstBit 2 (some .int), Cond.fieldLink RX4 28 "Commutator$Point" "offset" "I", Cond.methodLink RX4 52 yX4_decode, Cond.instanceMethod yX4_decode, Cond.selects RX4 yX4_decode yX4_decode, Cond.code yX4_decode cX4_decode 3 (some .int), Cond.fieldLink RX4 15 "Commutator$Point" "convention" "I", Cond.methodLink RX4 38 yX4_signWeight, Cond.instanceMethod yX4_signWeight, Cond.selects RX4 yX4_signWeight yX4_signWeight, Cond.code yX4_signWeight cX4_signWeight 1 (some .int), Cond.methodLink RX4 55 yX6_set]
def wsL_receive_r7 : List Cond := [Cond.instanceMethod yX6_set, Cond.selects RX6 yX6_set yX6_set, Cond.initialized RX6, Cond.code yX6_set cX6_set 3 none, Cond.fieldLink RX6 7 "Commutator$Reading" "known" "Z", Cond.fieldLink RX6 13 "Commutator$Reading" "amount" "I", Cond.fieldLink RX6 17 "Commutator$Reading" "moment" "I"]
def wsL_receive : List Cond := .codeWith yL_receive cL_receive 4 (some .int) [(0, 9, 12, 13)] :: ((wsL_receive_r1 ++ (wsL_receive_r2 ++ (wsL_receive_r3 ++ (wsL_receive_r4 ++ (wsL_receive_r5 ++ (wsL_receive_r6 ++ wsL_receive_r7)))))) ++ wsX90 ++ wsX00 ++ wsX80 ++ wsX30 ++ wsX50 ++ wsX40 ++ wsX60 ++ (vx_at0 RX9 57 "java/lang/IllegalArgumentException" ["java/lang/RuntimeException", "java/lang/Exception"]).filter goodWord)
def wsL_number : List Cond := .codeWith yL_number cL_number 3 (some .int) [(0, 8, 11, 46)] :: ([.classLink RL 46 "java/util/NoSuchElementException", .methodLink RL 42 yX9_number, .instanceMethod yX9_number, .selects RX9 yX9_number yX9_number, .initialized RX9, .code yX9_number cX9_number 1 (some .int), .classLink RX9 157 "java/util/NoSuchElementException", .initialized "java/util/NoSuchElementException", .fieldLink RX9 40 "Commutator" "decoder" "LCommutator$Decoder;"] ++ wsX90 ++ wsX00 ++ (vx_at0 RX9 159 "java/util/NoSuchElementException" ["java/lang/RuntimeException", "java/lang/Exception"]).filter goodWord)
def wsL_value_r1 : List Cond := [Cond.classLink RL 21 "java/lang/IndexOutOfBoundsException", Cond.classLink RL 46 "java/util/NoSuchElementException", Cond.methodLink RL 48 yX9_value, Cond.instanceMethod yX9_value, Cond.selects RX9 yX9_value yX9_value, Cond.initialized RX9, Cond.code yX9_value cX9_value 2 (some .int), Cond.methodLink RX9 71 yX9_existingPoint, Cond.instanceMethod yX9_existingPoint, Cond.selects RX9 yX9_existingPoint yX9_existingPoint, Cond.code yX9_existingPoint cX9_existingPoint 3 (some (.object "Commutator$Point")), Cond.classLink RX9 107 "java/lang/IndexOutOfBoundsException", Cond.initialized "java/lang/IndexOutOfBoundsException", Cond.fieldLink RX9 10 "Commutator" "table" "LCommutator$PointTable;", Cond.methodLink RX9 202 yX5_at, Cond.instanceMethod yX5_at, Cond.selects RX5 yX5_at yX5_at, Cond.initialized RX5, Cond.code yX5_at cX5_at 2 (some (.object "Commutator$Point")), Cond.fieldLink RX5 21 "Commutator$PointTable" "count" "I", Cond.fieldLink RX5 11 "Commutator$PointTable" "rows" "[LCommutator$Point;", Cond.methodLink RX9 163 yX9_latestOf, Cond.static yX9_latestOf, Cond.code yX9_latestOf cX9_latestOf 1 (some (.object "Commutator$Reading"))]
def wsL_value_r2 : List Cond := [Cond.classLink RX9 157 "java/util/NoSuchElementException", Cond.initialized "java/util/NoSuchElementException"]
def wsL_value : List Cond := .codeWith yL_value cL_value 4 (some .int) [(0, 9, 12, 21), (0, 9, 15, 46)] :: ((wsL_value_r1 ++ wsL_value_r2) ++ wsX60 ++ wsX90 ++ wsX50 ++ wsX40 ++ (vx_at0 RX9 109 "java/lang/IndexOutOfBoundsException" ["java/lang/RuntimeException", "java/lang/Exception"]).filter goodWord ++ (vx_at0 RX9 159 "java/util/NoSuchElementException" ["java/lang/RuntimeException", "java/lang/Exception"]).filter goodWord)
def wsL_time_r1 : List Cond := [Cond.classLink RL 21 "java/lang/IndexOutOfBoundsException", Cond.classLink RL 46 "java/util/NoSuchElementException", Cond.methodLink RL 51 yX9_time, Cond.instanceMethod yX9_time, Cond.selects RX9 yX9_time yX9_time, Cond.initialized RX9, Cond.code yX9_time cX9_time 2 (some .int), Cond.methodLink RX9 71 yX9_existingPoint, Cond.instanceMethod yX9_existingPoint, Cond.selects RX9 yX9_existingPoint yX9_existingPoint, Cond.code yX9_existingPoint cX9_existingPoint 3 (some (.object "Commutator$Point")), Cond.classLink RX9 107 "java/lang/IndexOutOfBoundsException", Cond.initialized "java/lang/IndexOutOfBoundsException", Cond.fieldLink RX9 10 "Commutator" "table" "LCommutator$PointTable;", Cond.methodLink RX9 202 yX5_at, Cond.instanceMethod yX5_at, Cond.selects RX5 yX5_at yX5_at, Cond.initialized RX5, Cond.code yX5_at cX5_at 2 (some (.object "Commutator$Point")), Cond.fieldLink RX5 21 "Commutator$PointTable" "count" "I", Cond.fieldLink RX5 11 "Commutator$PointTable" "rows" "[LCommutator$Point;", Cond.methodLink RX9 163 yX9_latestOf, Cond.static yX9_latestOf, Cond.code yX9_latestOf cX9_latestOf 1 (some (.object "Commutator$Reading"))]
def wsL_time_r2 : List Cond := [Cond.classLink RX9 157 "java/util/NoSuchElementException", Cond.initialized "java/util/NoSuchElementException"]
def wsL_time : List Cond := .codeWith yL_time cL_time 4 (some .int) [(0, 9, 12, 21), (0, 9, 15, 46)] :: ((wsL_time_r1 ++ wsL_time_r2) ++ wsX60 ++ wsX90 ++ wsX50 ++ wsX40 ++ (vx_at0 RX9 109 "java/lang/IndexOutOfBoundsException" ["java/lang/RuntimeException", "java/lang/Exception"]).filter goodWord ++ (vx_at0 RX9 159 "java/util/NoSuchElementException" ["java/lang/RuntimeException", "java/lang/Exception"]).filter goodWord)
def wsL_samples : List Cond := .codeWith yL_samples cL_samples 4 (some .int) [(0, 9, 12, 21)] :: ([.classLink RL 21 "java/lang/IndexOutOfBoundsException", .methodLink RL 54 yX9_samples, .instanceMethod yX9_samples, .selects RX9 yX9_samples yX9_samples, .initialized RX9, .code yX9_samples cX9_samples 2 (some .int), .methodLink RX9 71 yX9_existingPoint, .instanceMethod yX9_existingPoint, .selects RX9 yX9_existingPoint yX9_existingPoint, .code yX9_existingPoint cX9_existingPoint 3 (some (.object "Commutator$Point")), .classLink RX9 107 "java/lang/IndexOutOfBoundsException", .initialized "java/lang/IndexOutOfBoundsException", .fieldLink RX9 10 "Commutator" "table" "LCommutator$PointTable;", .methodLink RX9 202 yX5_at, .instanceMethod yX5_at, .selects RX5 yX5_at yX5_at, .initialized RX5, .code yX5_at cX5_at 2 (some (.object "Commutator$Point")), .fieldLink RX5 21 "Commutator$PointTable" "count" "I", .fieldLink RX5 11 "Commutator$PointTable" "rows" "[LCommutator$Point;"] ++ wsX40 ++ wsX90 ++ wsX50 ++ (vx_at0 RX9 109 "java/lang/IndexOutOfBoundsException" ["java/lang/RuntimeException", "java/lang/Exception"]).filter goodWord)
def wsL_missing : List Cond := .codeWith yL_missing cL_missing 4 (some .int) [(0, 9, 12, 21)] :: ([.classLink RL 21 "java/lang/IndexOutOfBoundsException", .methodLink RL 57 yX9_missing, .instanceMethod yX9_missing, .selects RX9 yX9_missing yX9_missing, .initialized RX9, .code yX9_missing cX9_missing 2 (some .int), .methodLink RX9 71 yX9_existingPoint, .instanceMethod yX9_existingPoint, .selects RX9 yX9_existingPoint yX9_existingPoint, .code yX9_existingPoint cX9_existingPoint 3 (some (.object "Commutator$Point")), .classLink RX9 107 "java/lang/IndexOutOfBoundsException", .initialized "java/lang/IndexOutOfBoundsException", .fieldLink RX9 10 "Commutator" "table" "LCommutator$PointTable;", .methodLink RX9 202 yX5_at, .instanceMethod yX5_at, .selects RX5 yX5_at yX5_at, .initialized RX5, .code yX5_at cX5_at 2 (some (.object "Commutator$Point")), .fieldLink RX5 21 "Commutator$PointTable" "count" "I", .fieldLink RX5 11 "Commutator$PointTable" "rows" "[LCommutator$Point;"] ++ wsX40 ++ wsX90 ++ wsX50 ++ (vx_at0 RX9 109 "java/lang/IndexOutOfBoundsException" ["java/lang/RuntimeException", "java/lang/Exception"]).filter goodWord)
def wsL_derive_r1 : List Cond := [Cond.classLink RL 13 "java/lang/IllegalArgumentException", Cond.classLink RL 15 "java/lang/IllegalStateException", Cond.methodLink RL 60 yX9_derive, Cond.instanceMethod yX9_derive, Cond.selects RX9 yX9_derive yX9_derive, Cond.initialized RX9, Cond.code yX9_derive cX9_derive 5 none, Cond.classLink RX9 55 "java/lang/IllegalArgumentException", Cond.initialized "java/lang/IllegalArgumentException", Cond.classLink RX9 65 "java/lang/IllegalStateException", Cond.initialized "java/lang/IllegalStateException", Cond.fieldLink RX9 47 "Commutator" "derivedTable" "LCommutator$DerivedTable;", Cond.methodLink RX9 181 yX9_isDerived, Cond.static yX9_isDerived, Cond.code yX9_isDerived cX9_isDerived 1 (some .boolean), Cond.methodLink RX9 184 yX9_isOperand, Cond.static yX9_isOperand, Cond.code yX9_isOperand cX9_isOperand 1 (some .boolean), Cond.methodLink RX9 187 yX2_wouldNeedItself, Cond.instanceMethod yX2_wouldNeedItself, Cond.selects RX2 yX2_wouldNeedItself yX2_wouldNeedItself, Cond.initialized RX2, Cond.code yX2_wouldNeedItself cX2_wouldNeedItself 6 (some .boolean), Cond.fieldLink RX2 11 "Commutator$DerivedTable" "rows" "[LCommutator$Derived;"]
def wsL_derive_r2 : List Cond := [Cond.methodLink RX2 36 yX2_operandMask, Cond.static yX2_operandMask, Cond.code yX2_operandMask cX2_operandMask 1 (some .int), Cond.methodLink RX2 40 yX2_needsOf, Cond.instanceMethod yX2_needsOf, Cond.selects RX2 yX2_needsOf yX2_needsOf, Cond.code yX2_needsOf cX2_needsOf 5 (some .int), Cond.methodLink RX9 191 yX2_define, Cond.instanceMethod yX2_define, Cond.selects RX2 yX2_define yX2_define, Cond.code yX2_define cX2_define 6 none, Cond.methodLink RX2 18 yX2_at, Cond.instanceMethod yX2_at, Cond.selects RX2 yX2_at yX2_at, Cond.code yX2_at cX2_at 2 (some (.object "Commutator$Derived"))]
def wsL_derive : List Cond := .codeWith yL_derive cL_derive 6 (some .int) [(0, 9, 12, 13), (0, 9, 16, 15)] :: ((wsL_derive_r1 ++ wsL_derive_r2) ++ wsX90 ++ wsX20 ++ wsX10 ++ (vx_at0 RX9 57 "java/lang/IllegalArgumentException" ["java/lang/RuntimeException", "java/lang/Exception"]).filter goodWord ++ (vx_at0 RX9 67 "java/lang/IllegalStateException" ["java/lang/RuntimeException", "java/lang/Exception"]).filter goodWord)
def wsL_derivedValue_r1 : List Cond := [Cond.classLink RL 13 "java/lang/IllegalArgumentException", Cond.classLink RL 46 "java/util/NoSuchElementException", Cond.methodLink RL 64 yX9_derivedValue, Cond.instanceMethod yX9_derivedValue, Cond.selects RX9 yX9_derivedValue yX9_derivedValue, Cond.initialized RX9, Cond.code yX9_derivedValue cX9_derivedValue 2 (some .int), Cond.methodLink RX9 195 yX9_resultOf, Cond.instanceMethod yX9_resultOf, Cond.selects RX9 yX9_resultOf yX9_resultOf, Cond.code yX9_resultOf cX9_resultOf 3 (some (.object "Commutator$Reading")), Cond.classLink RX9 55 "java/lang/IllegalArgumentException", Cond.initialized "java/lang/IllegalArgumentException", Cond.classLink RX9 157 "java/util/NoSuchElementException", Cond.initialized "java/util/NoSuchElementException", Cond.fieldLink RX9 47 "Commutator" "derivedTable" "LCommutator$DerivedTable;", Cond.fieldLink RX9 10 "Commutator" "table" "LCommutator$PointTable;", Cond.methodLink RX9 181 yX9_isDerived, Cond.static yX9_isDerived, Cond.code yX9_isDerived cX9_isDerived 1 (some .boolean), Cond.methodLink RX9 212 yX2_compute, Cond.instanceMethod yX2_compute, Cond.selects RX2 yX2_compute yX2_compute, Cond.initialized RX2]
def wsL_derivedValue_r2 : List Cond := [Cond.code yX2_compute cX2_compute 5 (some (.object "Commutator$Reading")), Cond.fieldLink RX2 11 "Commutator$DerivedTable" "rows" "[LCommutator$Derived;", Cond.methodLink RX2 47 yX6_forget, Cond.instanceMethod yX6_forget, Cond.selects RX6 yX6_forget yX6_forget, Cond.initialized RX6, Cond.code yX6_forget cX6_forget 1 none, Cond.fieldLink RX6 7 "Commutator$Reading" "known" "Z", Cond.methodLink RX2 52 yX2_computeOne, Cond.instanceMethod yX2_computeOne, Cond.selects RX2 yX2_computeOne yX2_computeOne, Cond.code yX2_computeOne cX2_computeOne 5 none, Cond.methodLink RX2 59 yX2_operand, Cond.instanceMethod yX2_operand, Cond.selects RX2 yX2_operand yX2_operand, Cond.code yX2_operand cX2_operand 4 (some (.object "Commutator$Reading")), Cond.methodLink RX2 18 yX2_at, Cond.instanceMethod yX2_at, Cond.selects RX2 yX2_at yX2_at, Cond.code yX2_at cX2_at 2 (some (.object "Commutator$Derived")), Cond.methodLink RX2 67 yX5_at, Cond.instanceMethod yX5_at, Cond.selects RX5 yX5_at yX5_at, Cond.initialized RX5]
def wsL_derivedValue_r3 : List Cond := [Cond.code yX5_at cX5_at 2 (some (.object "Commutator$Point")), Cond.fieldLink RX5 21 "Commutator$PointTable" "count" "I", Cond.fieldLink RX5 11 "Commutator$PointTable" "rows" "[LCommutator$Point;", Cond.methodLink RX2 63 yX1_combine, Cond.instanceMethod yX1_combine, Cond.selects RX1 yX1_combine yX1_combine, Cond.initialized RX1, Cond.code yX1_combine cX1_combine 4 none, Cond.constantLong RX1 16 (-1000000), Cond.constantLong RX1 18 (1000000), Cond.methodLink RX1 28 Lib.MathLoose.min_long.x, Cond.static Lib.MathLoose.min_long.x, Cond.initialized "java/lang/Math", Cond.code Lib.MathLoose.min_long.x Lib.MathLoose.min_long.code 4 (some .long), Cond.methodLink RX1 33 Lib.MathLoose.max_long.x, Cond.static Lib.MathLoose.max_long.x, Cond.code Lib.MathLoose.max_long.x Lib.MathLoose.max_long.code 4 (some .long), Cond.fieldLink RX1 10 "Commutator$Derived" "result" "LCommutator$Reading;", Cond.methodLink RX1 39 Lib.Math.max.name, Cond.static Lib.Math.max.name, Cond.code Lib.Math.max.name Lib.Math.max.code 2 (some .int), Cond.methodLink RX1 24 yX1_operate, Cond.instanceMethod yX1_operate, Cond.selects RX1 yX1_operate yX1_operate]
def wsL_derivedValue_r4 : List Cond := [Cond.code yX1_operate cX1_operate 5 (some .long), Cond.fieldLink RX1 46 "Commutator$Derived" "operation" "I", Cond.methodLink RX1 42 yX6_set, Cond.instanceMethod yX6_set, Cond.selects RX6 yX6_set yX6_set, Cond.code yX6_set cX6_set 3 none, Cond.fieldLink RX6 13 "Commutator$Reading" "amount" "I", Cond.fieldLink RX6 17 "Commutator$Reading" "moment" "I"]
def wsL_derivedValue : List Cond := .codeWith yL_derivedValue cL_derivedValue 4 (some .int) [(0, 9, 12, 13), (0, 9, 15, 46)] :: ((wsL_derivedValue_r1 ++ (wsL_derivedValue_r2 ++ (wsL_derivedValue_r3 ++ wsL_derivedValue_r4))) ++ wsX60 ++ wsX90 ++ wsX20 ++ wsX10 ++ wsX40 ++ wsX50 ++ (vx_at0 RX9 57 "java/lang/IllegalArgumentException" ["java/lang/RuntimeException", "java/lang/Exception"]).filter goodWord ++ (vx_at0 RX9 159 "java/util/NoSuchElementException" ["java/lang/RuntimeException", "java/lang/Exception"]).filter goodWord)
def wsL_derivedTime_r1 : List Cond := [Cond.classLink RL 13 "java/lang/IllegalArgumentException", Cond.classLink RL 46 "java/util/NoSuchElementException", Cond.methodLink RL 67 yX9_derivedTime, Cond.instanceMethod yX9_derivedTime, Cond.selects RX9 yX9_derivedTime yX9_derivedTime, Cond.initialized RX9, Cond.code yX9_derivedTime cX9_derivedTime 2 (some .int), Cond.methodLink RX9 195 yX9_resultOf, Cond.instanceMethod yX9_resultOf, Cond.selects RX9 yX9_resultOf yX9_resultOf, Cond.code yX9_resultOf cX9_resultOf 3 (some (.object "Commutator$Reading")), Cond.classLink RX9 55 "java/lang/IllegalArgumentException", Cond.initialized "java/lang/IllegalArgumentException", Cond.classLink RX9 157 "java/util/NoSuchElementException", Cond.initialized "java/util/NoSuchElementException", Cond.fieldLink RX9 47 "Commutator" "derivedTable" "LCommutator$DerivedTable;", Cond.fieldLink RX9 10 "Commutator" "table" "LCommutator$PointTable;", Cond.methodLink RX9 181 yX9_isDerived, Cond.static yX9_isDerived, Cond.code yX9_isDerived cX9_isDerived 1 (some .boolean), Cond.methodLink RX9 212 yX2_compute, Cond.instanceMethod yX2_compute, Cond.selects RX2 yX2_compute yX2_compute, Cond.initialized RX2]
def wsL_derivedTime_r2 : List Cond := [Cond.code yX2_compute cX2_compute 5 (some (.object "Commutator$Reading")), Cond.fieldLink RX2 11 "Commutator$DerivedTable" "rows" "[LCommutator$Derived;", Cond.methodLink RX2 47 yX6_forget, Cond.instanceMethod yX6_forget, Cond.selects RX6 yX6_forget yX6_forget, Cond.initialized RX6, Cond.code yX6_forget cX6_forget 1 none, Cond.fieldLink RX6 7 "Commutator$Reading" "known" "Z", Cond.methodLink RX2 52 yX2_computeOne, Cond.instanceMethod yX2_computeOne, Cond.selects RX2 yX2_computeOne yX2_computeOne, Cond.code yX2_computeOne cX2_computeOne 5 none, Cond.methodLink RX2 59 yX2_operand, Cond.instanceMethod yX2_operand, Cond.selects RX2 yX2_operand yX2_operand, Cond.code yX2_operand cX2_operand 4 (some (.object "Commutator$Reading")), Cond.methodLink RX2 18 yX2_at, Cond.instanceMethod yX2_at, Cond.selects RX2 yX2_at yX2_at, Cond.code yX2_at cX2_at 2 (some (.object "Commutator$Derived")), Cond.methodLink RX2 67 yX5_at, Cond.instanceMethod yX5_at, Cond.selects RX5 yX5_at yX5_at, Cond.initialized RX5]
def wsL_derivedTime_r3 : List Cond := [Cond.code yX5_at cX5_at 2 (some (.object "Commutator$Point")), Cond.fieldLink RX5 21 "Commutator$PointTable" "count" "I", Cond.fieldLink RX5 11 "Commutator$PointTable" "rows" "[LCommutator$Point;", Cond.methodLink RX2 63 yX1_combine, Cond.instanceMethod yX1_combine, Cond.selects RX1 yX1_combine yX1_combine, Cond.initialized RX1, Cond.code yX1_combine cX1_combine 4 none, Cond.constantLong RX1 16 (-1000000), Cond.constantLong RX1 18 (1000000), Cond.methodLink RX1 28 Lib.MathLoose.min_long.x, Cond.static Lib.MathLoose.min_long.x, Cond.initialized "java/lang/Math", Cond.code Lib.MathLoose.min_long.x Lib.MathLoose.min_long.code 4 (some .long), Cond.methodLink RX1 33 Lib.MathLoose.max_long.x, Cond.static Lib.MathLoose.max_long.x, Cond.code Lib.MathLoose.max_long.x Lib.MathLoose.max_long.code 4 (some .long), Cond.fieldLink RX1 10 "Commutator$Derived" "result" "LCommutator$Reading;", Cond.methodLink RX1 39 Lib.Math.max.name, Cond.static Lib.Math.max.name, Cond.code Lib.Math.max.name Lib.Math.max.code 2 (some .int), Cond.methodLink RX1 24 yX1_operate, Cond.instanceMethod yX1_operate, Cond.selects RX1 yX1_operate yX1_operate]
def wsL_derivedTime_r4 : List Cond := [Cond.code yX1_operate cX1_operate 5 (some .long), Cond.fieldLink RX1 46 "Commutator$Derived" "operation" "I", Cond.methodLink RX1 42 yX6_set, Cond.instanceMethod yX6_set, Cond.selects RX6 yX6_set yX6_set, Cond.code yX6_set cX6_set 3 none, Cond.fieldLink RX6 13 "Commutator$Reading" "amount" "I", Cond.fieldLink RX6 17 "Commutator$Reading" "moment" "I"]
def wsL_derivedTime : List Cond := .codeWith yL_derivedTime cL_derivedTime 4 (some .int) [(0, 9, 12, 13), (0, 9, 15, 46)] :: ((wsL_derivedTime_r1 ++ (wsL_derivedTime_r2 ++ (wsL_derivedTime_r3 ++ wsL_derivedTime_r4))) ++ wsX60 ++ wsX90 ++ wsX20 ++ wsX10 ++ wsX40 ++ wsX50 ++ (vx_at0 RX9 57 "java/lang/IllegalArgumentException" ["java/lang/RuntimeException", "java/lang/Exception"]).filter goodWord ++ (vx_at0 RX9 159 "java/util/NoSuchElementException" ["java/lang/RuntimeException", "java/lang/Exception"]).filter goodWord)
def wsL_matches : List Cond := .codeWith yL_matches cL_matches 4 (some .int) [(0, 9, 12, 13)] :: ([.classLink RL 13 "java/lang/IllegalArgumentException", .methodLink RL 70 yX9_matches, .instanceMethod yX9_matches, .selects RX9 yX9_matches yX9_matches, .initialized RX9, .code yX9_matches cX9_matches 2 (some .int), .classLink RX9 55 "java/lang/IllegalArgumentException", .initialized "java/lang/IllegalArgumentException", .fieldLink RX9 33 "Commutator" "synchroniser" "LCommutator$Synchroniser;", .methodLink RX9 199 yX8_syncWordsAt, .instanceMethod yX8_syncWordsAt, .selects RX8 yX8_syncWordsAt yX8_syncWordsAt, .initialized RX8, .code yX8_syncWordsAt cX8_syncWordsAt 2 (some .int), .fieldLink RX8 15 "Commutator$Synchroniser" "syncWords" "[I"] ++ wsX90 ++ wsX80 ++ (vx_at0 RX9 57 "java/lang/IllegalArgumentException" ["java/lang/RuntimeException", "java/lang/Exception"]).filter goodWord)
def wsL_law0_r1 : List Cond := [Cond.classLink RL 8 RX9, Cond.instantiable RX9 6, Cond.initialized RX9, Cond.classLink RL 74 RX10, Cond.instantiable RX10 35, Cond.initialized RX10, Cond.arrayClass .long, Cond.methodLink RL 73 yX9_init, Cond.instanceMethod yX9_init, Cond.code yX9_init cX9_init 1 none, Cond.methodLink RX9 1 objectInit, Cond.instanceMethod objectInit, Cond.code objectInit ⟨#[0xb1]⟩ 1 none, Cond.classLink RX9 7 RX5, Cond.instantiable RX5 3, Cond.initialized RX5, Cond.fieldLink RX9 10 "Commutator" "table" "LCommutator$PointTable;", Cond.classLink RX9 16 RX3, Cond.instantiable RX3 3, Cond.initialized RX3, Cond.fieldLink RX9 19 "Commutator" "line" "LCommutator$Line;", Cond.classLink RX9 23 RX7, Cond.instantiable RX7 2, Cond.initialized RX7]
def wsL_law0_r2 : List Cond := [Cond.fieldLink RX9 26 "Commutator" "sender" "LCommutator$Sender;", Cond.classLink RX9 30 RX8, Cond.instantiable RX8 7, Cond.initialized RX8, Cond.fieldLink RX9 33 "Commutator" "synchroniser" "LCommutator$Synchroniser;", Cond.classLink RX9 37 RX0, Cond.instantiable RX0 5, Cond.initialized RX0, Cond.fieldLink RX9 40 "Commutator" "decoder" "LCommutator$Decoder;", Cond.classLink RX9 44 RX2, Cond.instantiable RX2 1, Cond.initialized RX2, Cond.fieldLink RX9 47 "Commutator" "derivedTable" "LCommutator$DerivedTable;", Cond.instanceMethod yX5_init, Cond.code yX5_init cX5_init 1 none, Cond.methodLink RX5 3 objectInit, Cond.classLink RX5 9 RX4, Cond.fieldLink RX5 11 "Commutator$PointTable" "rows" "[LCommutator$Point;", Cond.fieldLink RX5 17 "Commutator$PointTable" "usedBits" "[J", Cond.instanceMethod yX3_init, Cond.code yX3_init cX3_init 1 none, Cond.methodLink RX3 3 objectInit, Cond.arrayClass .int, Cond.fieldLink RX3 9 "Commutator$Line" "bits" "[I"]
def wsL_law0_r3 : List Cond := [Cond.instanceMethod yX7_init, Cond.code yX7_init cX7_init 1 none, Cond.methodLink RX7 3 objectInit, Cond.instanceMethod yX8_init, Cond.code yX8_init cX8_init 1 none, Cond.methodLink RX8 3 objectInit, Cond.fieldLink RX8 9 "Commutator$Synchroniser" "mode" "I", Cond.fieldLink RX8 15 "Commutator$Synchroniser" "syncWords" "[I", Cond.instanceMethod yX0_init, Cond.code yX0_init cX0_init 1 none, Cond.methodLink RX0 3 objectInit, Cond.methodLink RX9 46 yX2_init, Cond.instanceMethod yX2_init, Cond.code yX2_init cX2_init 2 none, Cond.methodLink RX2 3 objectInit, Cond.classLink RX2 9 RX1, Cond.fieldLink RX2 11 "Commutator$DerivedTable" "rows" "[LCommutator$Derived;", Cond.instantiable RX1 5, Cond.initialized RX1, Cond.instanceMethod yX1_init, Cond.code yX1_init cX1_init 1 none, Cond.methodLink RX1 1 objectInit, Cond.classLink RX1 7 RX6, Cond.instantiable RX6 3]
def wsL_law0_r4 : List Cond := [Cond.initialized RX6, Cond.fieldLink RX1 10 "Commutator$Derived" "result" "LCommutator$Reading;", Cond.instanceMethod yX6_init, Cond.code yX6_init cX6_init 1 none, Cond.methodLink RX6 1 objectInit, Cond.methodLink RL 76 yX10_init, Cond.instanceMethod yX10_init, Cond.code yX10_init cX10_init 2 none, Cond.methodLink RX10 1 objectInit, Cond.fieldLink RX10 7 "CommutatorModel" "width" "[I", Cond.fieldLink RX10 13 "CommutatorModel" "convention" "[I", Cond.fieldLink RX10 16 "CommutatorModel" "period" "[I", Cond.fieldLink RX10 19 "CommutatorModel" "samplesEach" "[I", Cond.fieldLink RX10 22 "CommutatorModel" "phase" "[I", Cond.fieldLink RX10 25 "CommutatorModel" "offset" "[I", Cond.fieldLink RX10 28 "CommutatorModel" "present" "[I", Cond.fieldLink RX10 31 "CommutatorModel" "sending" "[I", Cond.fieldLink RX10 34 "CommutatorModel" "line" "[I", Cond.fieldLink RX10 37 "CommutatorModel" "past" "[I", Cond.fieldLink RX10 40 "CommutatorModel" "value" "[I", Cond.fieldLink RX10 43 "CommutatorModel" "time" "[I", Cond.fieldLink RX10 46 "CommutatorModel" "samples" "[I", Cond.fieldLink RX10 49 "CommutatorModel" "missing" "[I", Cond.fieldLink RX10 52 "CommutatorModel" "operation" "[I"]
def wsL_law0_r5 : List Cond := [Cond.fieldLink RX10 55 "CommutatorModel" "first" "[I", Cond.fieldLink RX10 58 "CommutatorModel" "second" "[I", Cond.arrayClass .boolean, Cond.fieldLink RX10 61 "CommutatorModel" "isKnown" "[Z", Cond.fieldLink RX10 65 "CommutatorModel" "derived" "[I", Cond.fieldLink RX10 68 "CommutatorModel" "derivedAt" "[I", Cond.fieldLink RX10 71 "CommutatorModel" "counter" "I", Cond.fieldLink RX10 75 "CommutatorModel" "begun" "I", Cond.methodLink RL 77 yL_addPoint, Cond.static yL_addPoint, Cond.initialized RL, Cond.codeWith yL_addPoint cL_addPoint 7 (some .int) [(0, 14, 17, 13), (0, 14, 21, 15)], Cond.classLink RL 13 "java/lang/IllegalArgumentException", Cond.classLink RL 15 "java/lang/IllegalStateException", Cond.methodLink RL 7 yX9_addPoint, Cond.instanceMethod yX9_addPoint, Cond.selects RX9 yX9_addPoint yX9_addPoint, Cond.code yX9_addPoint cX9_addPoint 5 (some .int), Cond.classLink RX9 55 "java/lang/IllegalArgumentException", Cond.initialized "java/lang/IllegalArgumentException", Cond.classLink RX9 65 "java/lang/IllegalStateException", Cond.initialized "java/lang/IllegalStateException", Cond.methodLink RX9 51 yX9_isPointAllowed, Cond.static yX9_isPointAllowed]
def wsL_law0_r6 : List Cond := [Cond.code yX9_isPointAllowed cX9_isPointAllowed 5 (some .boolean), Cond.methodLink RX9 62 yX5_add, Cond.instanceMethod yX5_add, Cond.selects RX5 yX5_add yX5_add, Cond.code yX5_add cX5_add 10 (some .boolean), Cond.fieldLink RX5 21 "Commutator$PointTable" "count" "I", Cond.instantiable RX4 10, Cond.initialized RX4, Cond.methodLink RX5 25 yX5_bitsAt, Cond.static yX5_bitsAt, Cond.code yX5_bitsAt cX5_bitsAt 5 (some .long), Cond.methodLink RX5 29 yX5_isFree, Cond.instanceMethod yX5_isFree, Cond.selects RX5 yX5_isFree yX5_isFree, Cond.code yX5_isFree cX5_isFree 6 (some .boolean), Cond.methodLink RX5 33 yX5_use, Cond.instanceMethod yX5_use, Cond.selects RX5 yX5_use yX5_use, Cond.code yX5_use cX5_use 6 none, Cond.methodLink RX5 37 yX4_init, Cond.instanceMethod yX4_init, Cond.code yX4_init cX4_init 7 none, Cond.methodLink RX4 3 objectInit, Cond.fieldLink RX4 9 "Commutator$Point" "width" "I"]
def wsL_law0_r7 : List Cond := [Cond.fieldLink RX4 15 "Commutator$Point" "convention" "I", Cond.fieldLink RX4 18 "Commutator$Point" "period" "I", Cond.fieldLink RX4 21 "Commutator$Point" "twice" "Z", Cond.fieldLink RX4 25 "Commutator$Point" "phase" "I", Cond.fieldLink RX4 28 "Commutator$Point" "offset" "I", Cond.classLink RX4 31 RX6, Cond.fieldLink RX4 34 "Commutator$Point" "latest" "LCommutator$Reading;", Cond.methodLink RL 82 yX10_addPoint, Cond.instanceMethod yX10_addPoint, Cond.selects RX10 yX10_addPoint yX10_addPoint, Cond.code yX10_addPoint cX10_addPoint 7 (some .int), Cond.fieldLink RX10 81 "CommutatorModel" "points" "I", Cond.fieldLink RX10 104 "CommutatorModel" "words" "I", Cond.methodLink RX10 84 yX10_isIn, Cond.static yX10_isIn, Cond.code yX10_isIn cX10_isIn 3 (some .boolean), Cond.methodLink RX10 100 yX10_firstPlace, Cond.instanceMethod yX10_firstPlace, Cond.selects RX10 yX10_firstPlace yX10_firstPlace, Cond.code yX10_firstPlace cX10_firstPlace 6 (some .int), Cond.methodLink RX10 96 yX10_isFree, Cond.instanceMethod yX10_isFree, Cond.selects RX10 yX10_isFree yX10_isFree, Cond.code yX10_isFree cX10_isFree 9 (some .boolean)]
def wsL_law0_r8 : List Cond := [Cond.methodLink RX10 92 yX10_userOf, Cond.instanceMethod yX10_userOf, Cond.selects RX10 yX10_userOf yX10_userOf, Cond.code yX10_userOf cX10_userOf 7 (some .int), Cond.methodLink RX10 88 yX10_isSent, Cond.instanceMethod yX10_isSent, Cond.selects RX10 yX10_isSent yX10_isSent, Cond.code yX10_isSent cX10_isSent 3 (some .boolean), Cond.methodLink RX10 107 yX10_can, Cond.instanceMethod yX10_can, Cond.selects RX10 yX10_can yX10_can, Cond.code yX10_can cX10_can 2 (some .boolean), Cond.fieldLink RX10 78 "CommutatorModel" "thrown" "I", Cond.methodLink RL 83 yX10_thrown, Cond.instanceMethod yX10_thrown, Cond.selects RX10 yX10_thrown yX10_thrown, Cond.code yX10_thrown cX10_thrown 1 (some .int), Cond.methodLink RL 86 yX9_points, Cond.instanceMethod yX9_points, Cond.selects RX9 yX9_points yX9_points, Cond.code yX9_points cX9_points 1 (some .int), Cond.methodLink RL 89 yX10_points, Cond.instanceMethod yX10_points, Cond.selects RX10 yX10_points yX10_points]
def wsL_law0_r9 : List Cond := [Cond.code yX10_points cX10_points 1 (some .int), Cond.methodLink RL 90 yL_place, Cond.static yL_place, Cond.codeWith yL_place cL_place 4 (some .int) [(0, 9, 12, 21)], Cond.classLink RL 21 "java/lang/IndexOutOfBoundsException", Cond.methodLink RL 17 yX9_place, Cond.instanceMethod yX9_place, Cond.selects RX9 yX9_place yX9_place, Cond.code yX9_place cX9_place 3 (some .int), Cond.methodLink RX9 71 yX9_existingPoint, Cond.instanceMethod yX9_existingPoint, Cond.selects RX9 yX9_existingPoint yX9_existingPoint, Cond.code yX9_existingPoint cX9_existingPoint 3 (some (.object "Commutator$Point")), Cond.classLink RX9 107 "java/lang/IndexOutOfBoundsException", Cond.initialized "java/lang/IndexOutOfBoundsException", Cond.methodLink RX9 202 yX5_at, Cond.instanceMethod yX5_at, Cond.selects RX5 yX5_at yX5_at, Cond.code yX5_at cX5_at 2 (some (.object "Commutator$Point")), Cond.methodLink RL 93 yX10_place, Cond.instanceMethod yX10_place, Cond.selects RX10 yX10_place yX10_place, Cond.code yX10_place cX10_place 2 (some .int), Cond.methodLink RX10 111 yX10_isPoint]
def wsL_law0_r10 : List Cond := [Cond.instanceMethod yX10_isPoint, Cond.selects RX10 yX10_isPoint yX10_isPoint, Cond.code yX10_isPoint cX10_isPoint 2 (some .boolean), Cond.methodLink RL 94 yX9_spare, Cond.instanceMethod yX9_spare, Cond.selects RX9 yX9_spare yX9_spare, Cond.code yX9_spare cX9_spare 1 (some .int), Cond.methodLink RX9 83 yX5_spareBits, Cond.instanceMethod yX5_spareBits, Cond.selects RX5 yX5_spareBits yX5_spareBits, Cond.code yX5_spareBits cX5_spareBits 3 (some .int), Cond.methodLink RX5 40 yJ13_bitCount_95d88, Cond.static yJ13_bitCount_95d88, Cond.initialized RJ13, Cond.code yJ13_bitCount_95d88 cJ13_bitCount_95d88 2 (some .int), Cond.constantLong RJ13 314 (6148914691236517205), Cond.constantLong RJ13 316 (3689348814741910323), Cond.constantLong RJ13 318 (1085102592571150095), Cond.methodLink RL 97 yX10_spare, Cond.instanceMethod yX10_spare, Cond.selects RX10 yX10_spare yX10_spare, Cond.code yX10_spare cX10_spare 3 (some .int), Cond.methodLink RL 98 yL_put, Cond.static yL_put]
def wsL_law0_r11 : List Cond := [Cond.codeWith yL_put cL_put 5 (some .int) [(0, 10, 13, 21), (0, 10, 17, 13)], Cond.methodLink RL 23 yX9_put, Cond.instanceMethod yX9_put, Cond.selects RX9 yX9_put yX9_put, Cond.code yX9_put cX9_put 5 (some .int), Cond.methodLink RX9 87 yX4_lowest, Cond.instanceMethod yX4_lowest, Cond.selects RX4 yX4_lowest yX4_lowest, Cond.code yX4_lowest cX4_lowest 1 (some .int), Cond.methodLink RX4 38 yX4_signWeight, Cond.instanceMethod yX4_signWeight, Cond.selects RX4 yX4_signWeight yX4_signWeight, Cond.code yX4_signWeight cX4_signWeight 1 (some .int), Cond.methodLink RX9 90 yX4_highest, Cond.instanceMethod yX4_highest, Cond.selects RX4 yX4_highest yX4_highest, Cond.code yX4_highest cX4_highest 1 (some .int), Cond.methodLink RL 101 yX10_put, Cond.instanceMethod yX10_put, Cond.selects RX10 yX10_put yX10_put, Cond.code yX10_put cX10_put 7 (some .int), Cond.methodLink RL 102 yL_send, Cond.static yL_send, Cond.codeWith yL_send cL_send 4 (some .int) [(0, 9, 12, 13), (0, 9, 15, 15)]]
def wsL_law0_r12 : List Cond := [Cond.methodLink RL 27 yX9_send, Cond.instanceMethod yX9_send, Cond.selects RX9 yX9_send yX9_send, Cond.code yX9_send cX9_send 3 (some .int), Cond.methodLink RX9 96 yX7_sendWord, Cond.instanceMethod yX7_sendWord, Cond.selects RX7 yX7_sendWord yX7_sendWord, Cond.code yX7_sendWord cX7_sendWord 7 none, Cond.fieldLink RX7 9 "Commutator$Sender" "wordsSent" "I", Cond.constant RX7 15 (47104), Cond.fieldLink RX7 16 "Commutator$Sender" "frame" "J", Cond.methodLink RX7 20 yX7_packSamples, Cond.instanceMethod yX7_packSamples, Cond.selects RX7 yX7_packSamples yX7_packSamples, Cond.code yX7_packSamples cX7_packSamples 7 none, Cond.methodLink RX7 35 yX5_at, Cond.methodLink RX7 39 yX4_isSentIn, Cond.instanceMethod yX4_isSentIn, Cond.selects RX4 yX4_isSentIn yX4_isSentIn, Cond.code yX4_isSentIn cX4_isSentIn 2 (some .boolean), Cond.methodLink RX7 45 yX4_samplesInFrame, Cond.instanceMethod yX4_samplesInFrame, Cond.selects RX4 yX4_samplesInFrame yX4_samplesInFrame, Cond.code yX4_samplesInFrame cX4_samplesInFrame 1 (some .int)]
def wsL_law0_r13 : List Cond := [Cond.methodLink RX7 49 yX4_firstBit, Cond.instanceMethod yX4_firstBit, Cond.selects RX4 yX4_firstBit yX4_firstBit, Cond.code yX4_firstBit cX4_firstBit 2 (some .int), Cond.methodLink RX7 56 yX4_encode, Cond.instanceMethod yX4_encode, Cond.selects RX4 yX4_encode yX4_encode, Cond.code yX4_encode cX4_encode 2 (some .int), Cond.methodLink RX7 59 yX4_shift, Cond.instanceMethod yX4_shift, Cond.selects RX4 yX4_shift yX4_shift, Cond.code yX4_shift cX4_shift 2 (some .int), Cond.methodLink RX4 42 yX4_firstBit, Cond.methodLink RX7 24 yX3_append, Cond.instanceMethod yX3_append, Cond.selects RX3 yX3_append yX3_append, Cond.code yX3_append cX3_append 2 none, Cond.fieldLink RX3 15 "Commutator$Line" "end" "I", Cond.methodLink RX9 100 yX3_length, Cond.instanceMethod yX3_length, Cond.selects RX3 yX3_length yX3_length, Cond.code yX3_length cX3_length 1 (some .int), Cond.fieldLink RX3 19 "Commutator$Line" "head" "I", Cond.methodLink RL 104 yX10_send]
def wsL_law0_r14 : List Cond := [Cond.instanceMethod yX10_send, Cond.selects RX10 yX10_send yX10_send, Cond.code yX10_send cX10_send 3 (some .int), Cond.fieldLink RX10 117 "CommutatorModel" "onLine" "I", Cond.methodLink RX10 120 yX10_sendWord, Cond.instanceMethod yX10_sendWord, Cond.selects RX10 yX10_sendWord yX10_sendWord, Cond.code yX10_sendWord cX10_sendWord 7 none, Cond.methodLink RX10 114 yX10_coded, Cond.instanceMethod yX10_coded, Cond.selects RX10 yX10_coded yX10_coded, Cond.code yX10_coded cX10_coded 4 (some .int), Cond.methodLink RL 105 yX9_sent, Cond.instanceMethod yX9_sent, Cond.selects RX9 yX9_sent yX9_sent, Cond.code yX9_sent cX9_sent 1 (some .int), Cond.methodLink RL 108 yX10_sent, Cond.instanceMethod yX10_sent, Cond.selects RX10 yX10_sent yX10_sent, Cond.code yX10_sent cX10_sent 1 (some .int), Cond.methodLink RL 109 yX9_onLine, Cond.instanceMethod yX9_onLine, Cond.selects RX9 yX9_onLine yX9_onLine, Cond.code yX9_onLine cX9_onLine 1 (some .int)]
def wsL_law0_r15 : List Cond := [Cond.methodLink RL 112 yX10_onLine, Cond.instanceMethod yX10_onLine, Cond.selects RX10 yX10_onLine yX10_onLine, Cond.code yX10_onLine cX10_onLine 1 (some .int), Cond.methodLink RL 113 yL_bit, Cond.static yL_bit, Cond.codeWith yL_bit cL_bit 4 (some .int) [(0, 9, 12, 21)], Cond.methodLink RL 30 yX9_bit, Cond.instanceMethod yX9_bit, Cond.selects RX9 yX9_bit yX9_bit, Cond.code yX9_bit cX9_bit 2 (some .int), Cond.methodLink RX9 103 yX3_holds, Cond.instanceMethod yX3_holds, Cond.selects RX3 yX3_holds yX3_holds, Cond.code yX3_holds cX3_holds 3 (some .boolean), Cond.methodLink RX3 22 yX3_length, Cond.methodLink RX9 110 yX3_look, Cond.instanceMethod yX3_look, Cond.selects RX3 yX3_look yX3_look, Cond.code yX3_look cX3_look 2 (some .int), Cond.methodLink RX3 26 yX3_holds, Cond.methodLink RL 115 yX10_bit, Cond.instanceMethod yX10_bit, Cond.selects RX10 yX10_bit yX10_bit]
def wsL_law0_r16 : List Cond := [Cond.code yX10_bit cX10_bit 2 (some .int), Cond.methodLink RX10 123 yX10_isBit, Cond.instanceMethod yX10_isBit, Cond.selects RX10 yX10_isBit yX10_isBit, Cond.code yX10_isBit cX10_isBit 2 (some .boolean), Cond.methodLink RL 116 yL_flip, Cond.static yL_flip, Cond.codeWith yL_flip cL_flip 4 (some .int) [(0, 9, 12, 21)], Cond.methodLink RL 33 yX9_flip, Cond.instanceMethod yX9_flip, Cond.selects RX9 yX9_flip yX9_flip, Cond.code yX9_flip cX9_flip 2 (some .int), Cond.methodLink RX9 114 yX3_turnOver, Cond.instanceMethod yX3_turnOver, Cond.selects RX3 yX3_turnOver yX3_turnOver, Cond.code yX3_turnOver cX3_turnOver 2 (some .int), Cond.methodLink RL 118 yX10_flip, Cond.instanceMethod yX10_flip, Cond.selects RX10 yX10_flip yX10_flip, Cond.code yX10_flip cX10_flip 2 (some .int), Cond.methodLink RL 119 yL_cut, Cond.static yL_cut, Cond.codeWith yL_cut cL_cut 5 (some .int) [(0, 10, 13, 13), (0, 10, 17, 21)], Cond.methodLink RL 36 yX9_cut]
def wsL_law0_r17 : List Cond := [Cond.instanceMethod yX9_cut, Cond.selects RX9 yX9_cut yX9_cut, Cond.code yX9_cut cX9_cut 3 (some .int), Cond.methodLink RX9 117 yX3_remove, Cond.instanceMethod yX3_remove, Cond.selects RX3 yX3_remove yX3_remove, Cond.code yX3_remove cX3_remove 4 none, Cond.methodLink RX3 30 arraycopyName, Cond.native arraycopyName, Cond.static arraycopyName, Cond.initialized "java/lang/System", Cond.methodLink RL 121 yX10_cut, Cond.instanceMethod yX10_cut, Cond.selects RX10 yX10_cut yX10_cut, Cond.code yX10_cut cX10_cut 3 (some .int), Cond.methodLink RX10 126 yX10_drop, Cond.instanceMethod yX10_drop, Cond.selects RX10 yX10_drop yX10_drop, Cond.code yX10_drop cX10_drop 4 none, Cond.methodLink RL 122 yL_receive, Cond.static yL_receive, Cond.codeWith yL_receive cL_receive 4 (some .int) [(0, 9, 12, 13)], Cond.methodLink RL 39 yX9_receive, Cond.instanceMethod yX9_receive]
def wsL_law0_r18 : List Cond := [Cond.selects RX9 yX9_receive yX9_receive, Cond.code yX9_receive cX9_receive 5 (some .int), Cond.methodLink RX9 124 Lib.Math.min.name, Cond.static Lib.Math.min.name, Cond.initialized "java/lang/Math", Cond.code Lib.Math.min.name Lib.Math.min.code 2 (some .int), Cond.methodLink RX9 130 yX3_takeFirst, Cond.instanceMethod yX3_takeFirst, Cond.selects RX3 yX3_takeFirst yX3_takeFirst, Cond.code yX3_takeFirst cX3_takeFirst 2 (some .int), Cond.methodLink RX9 133 yX8_take, Cond.instanceMethod yX8_take, Cond.selects RX8 yX8_take yX8_take, Cond.code yX8_take cX8_take 2 (some .boolean), Cond.fieldLink RX8 19 "Commutator$Synchroniser" "latest" "J", Cond.fieldLink RX8 23 "Commutator$Synchroniser" "takenBits" "I", Cond.fieldLink RX8 33 "Commutator$Synchroniser" "bitsOfFrame" "I", Cond.methodLink RX8 26 yX8_isSyncWord, Cond.instanceMethod yX8_isSyncWord, Cond.selects RX8 yX8_isSyncWord yX8_isSyncWord, Cond.code yX8_isSyncWord cX8_isSyncWord 1 (some .boolean), Cond.methodLink RX8 39 yX8_latestWord, Cond.instanceMethod yX8_latestWord, Cond.selects RX8 yX8_latestWord yX8_latestWord]
def wsL_law0_r19 : List Cond := [Cond.code yX8_latestWord cX8_latestWord 1 (some .int), Cond.methodLink RX8 30 yX8_search, Cond.instanceMethod yX8_search, Cond.selects RX8 yX8_search yX8_search, Cond.code yX8_search cX8_search 1 none, Cond.fieldLink RX8 43 "Commutator$Synchroniser" "matchCount" "I", Cond.methodLink RX8 36 yX8_judgeSyncWord, Cond.instanceMethod yX8_judgeSyncWord, Cond.selects RX8 yX8_judgeSyncWord yX8_judgeSyncWord, Cond.code yX8_judgeSyncWord cX8_judgeSyncWord 1 none, Cond.methodLink RX8 46 yX8_check, Cond.instanceMethod yX8_check, Cond.selects RX8 yX8_check yX8_check, Cond.code yX8_check cX8_check 1 none, Cond.fieldLink RX8 52 "Commutator$Synchroniser" "missCount" "I", Cond.methodLink RX8 49 yX8_keepLock, Cond.instanceMethod yX8_keepLock, Cond.selects RX8 yX8_keepLock yX8_keepLock, Cond.code yX8_keepLock cX8_keepLock 1 none, Cond.methodLink RX8 55 yJ6_bitCount_0f7a4, Cond.static yJ6_bitCount_0f7a4, Cond.initialized RJ6, Cond.code yJ6_bitCount_0f7a4 cJ6_bitCount_0f7a4 1 (some .int), Cond.constant RJ6 265 (1431655765)]
def wsL_law0_r20 : List Cond := [Cond.constant RJ6 266 (858993459), Cond.constant RJ6 267 (252645135), Cond.methodLink RX9 141 yX0_decode, Cond.instanceMethod yX0_decode, Cond.selects RX0 yX0_decode yX0_decode, Cond.code yX0_decode cX0_decode 6 none, Cond.fieldLink RX0 9 "Commutator$Decoder" "usedFrames" "I", Cond.fieldLink RX0 15 "Commutator$Decoder" "latestNumber" "I", Cond.fieldLink RX0 18 "Commutator$Decoder" "latestCounter" "I", Cond.fieldLink RX0 21 "Commutator$Decoder" "repeatedFrames" "I", Cond.methodLink RX0 24 yX0_noteLost, Cond.instanceMethod yX0_noteLost, Cond.selects RX0 yX0_noteLost yX0_noteLost, Cond.code yX0_noteLost cX0_noteLost 6 none, Cond.fieldLink RX0 32 "Commutator$Decoder" "lostFrames" "I", Cond.methodLink RX0 40 yX5_at, Cond.methodLink RX0 44 yX4_isSentIn, Cond.methodLink RX0 50 yX4_noteMissing, Cond.instanceMethod yX4_noteMissing, Cond.selects RX4 yX4_noteMissing yX4_noteMissing, Cond.code yX4_noteMissing cX4_noteMissing 1 none, Cond.fieldLink RX4 62 "Commutator$Point" "missingCount" "I", Cond.methodLink RX4 46 yX4_samplesInFrame, Cond.methodLink RX0 28 yX0_giveSamples]
def wsL_law0_r21 : List Cond := [Cond.instanceMethod yX0_giveSamples, Cond.selects RX0 yX0_giveSamples yX0_giveSamples, Cond.code yX0_giveSamples cX0_giveSamples 6 none, Cond.methodLink RX0 53 yX4_readFrom, Cond.instanceMethod yX4_readFrom, Cond.selects RX4 yX4_readFrom yX4_readFrom, Cond.code yX4_readFrom cX4_readFrom 6 none, Cond.fieldLink RX4 59 "Commutator$Point" "sampleCount" "I", Cond.methodLink RX4 49 yX4_shift, Cond.methodLink RX4 52 yX4_decode, Cond.instanceMethod yX4_decode, Cond.selects RX4 yX4_decode yX4_decode, Cond.code yX4_decode cX4_decode 3 (some .int), Cond.methodLink RX4 55 yX6_set, Cond.instanceMethod yX6_set, Cond.selects RX6 yX6_set yX6_set, Cond.code yX6_set cX6_set 3 none, Cond.fieldLink RX6 7 "Commutator$Reading" "known" "Z", Cond.fieldLink RX6 13 "Commutator$Reading" "amount" "I", Cond.fieldLink RX6 17 "Commutator$Reading" "moment" "I", Cond.methodLink RL 124 yX10_receive, Cond.instanceMethod yX10_receive, Cond.selects RX10 yX10_receive yX10_receive, Cond.code yX10_receive cX10_receive 5 (some .int)]
def wsL_law0_r22 : List Cond := [Cond.methodLink RX10 174 yX10_takes, Cond.instanceMethod yX10_takes, Cond.selects RX10 yX10_takes yX10_takes, Cond.code yX10_takes cX10_takes 2 (some .int), Cond.fieldLink RX10 164 "CommutatorModel" "taken" "I", Cond.fieldLink RX10 151 "CommutatorModel" "state" "I", Cond.fieldLink RX10 154 "CommutatorModel" "matches" "I", Cond.fieldLink RX10 160 "CommutatorModel" "isDecoded" "Z", Cond.methodLink RX10 130 yX10_bits, Cond.instanceMethod yX10_bits, Cond.selects RX10 yX10_bits yX10_bits, Cond.code yX10_bits cX10_bits 5 (some .int), Cond.methodLink RX10 167 yX10_compares, Cond.instanceMethod yX10_compares, Cond.selects RX10 yX10_compares yX10_compares, Cond.code yX10_compares cX10_compares 3 none, Cond.fieldLink RX10 157 "CommutatorModel" "misses" "I", Cond.methodLink RX10 170 yX10_decodes, Cond.instanceMethod yX10_decodes, Cond.selects RX10 yX10_decodes yX10_decodes, Cond.code yX10_decodes cX10_decodes 5 (some .int), Cond.fieldLink RX10 139 "CommutatorModel" "repeats" "I", Cond.fieldLink RX10 142 "CommutatorModel" "lost" "I", Cond.fieldLink RX10 136 "CommutatorModel" "number" "I"]
def wsL_law0_r23 : List Cond := [Cond.fieldLink RX10 145 "CommutatorModel" "frames" "I", Cond.methodLink RX10 148 yX10_sample, Cond.instanceMethod yX10_sample, Cond.selects RX10 yX10_sample yX10_sample, Cond.code yX10_sample cX10_sample 4 none, Cond.methodLink RX10 133 yX10_read, Cond.instanceMethod yX10_read, Cond.selects RX10 yX10_read yX10_read, Cond.code yX10_read cX10_read 4 (some .int), Cond.methodLink RL 125 yX9_state, Cond.instanceMethod yX9_state, Cond.selects RX9 yX9_state yX9_state, Cond.code yX9_state cX9_state 1 (some .int), Cond.methodLink RL 128 yX10_state, Cond.instanceMethod yX10_state, Cond.selects RX10 yX10_state yX10_state, Cond.code yX10_state cX10_state 1 (some .int), Cond.methodLink RL 129 yX9_taken, Cond.instanceMethod yX9_taken, Cond.selects RX9 yX9_taken yX9_taken, Cond.code yX9_taken cX9_taken 1 (some .int), Cond.methodLink RL 132 yX10_taken, Cond.instanceMethod yX10_taken, Cond.selects RX10 yX10_taken yX10_taken]
def wsL_law0_r24 : List Cond := [Cond.code yX10_taken cX10_taken 1 (some .int), Cond.methodLink RL 133 yX9_frames, Cond.instanceMethod yX9_frames, Cond.selects RX9 yX9_frames yX9_frames, Cond.code yX9_frames cX9_frames 1 (some .int), Cond.methodLink RL 136 yX10_frames, Cond.instanceMethod yX10_frames, Cond.selects RX10 yX10_frames yX10_frames, Cond.code yX10_frames cX10_frames 1 (some .int), Cond.methodLink RL 137 yX9_lost, Cond.instanceMethod yX9_lost, Cond.selects RX9 yX9_lost yX9_lost, Cond.code yX9_lost cX9_lost 1 (some .int), Cond.methodLink RL 140 yX10_lost, Cond.instanceMethod yX10_lost, Cond.selects RX10 yX10_lost yX10_lost, Cond.code yX10_lost cX10_lost 1 (some .int), Cond.methodLink RL 141 yX9_repeats, Cond.instanceMethod yX9_repeats, Cond.selects RX9 yX9_repeats yX9_repeats, Cond.code yX9_repeats cX9_repeats 1 (some .int), Cond.methodLink RL 144 yX10_repeats, Cond.instanceMethod yX10_repeats, Cond.selects RX10 yX10_repeats yX10_repeats]
def wsL_law0_r25 : List Cond := [Cond.code yX10_repeats cX10_repeats 1 (some .int), Cond.methodLink RL 145 yL_number, Cond.static yL_number, Cond.codeWith yL_number cL_number 3 (some .int) [(0, 8, 11, 46)], Cond.classLink RL 46 "java/util/NoSuchElementException", Cond.methodLink RL 42 yX9_number, Cond.instanceMethod yX9_number, Cond.selects RX9 yX9_number yX9_number, Cond.code yX9_number cX9_number 1 (some .int), Cond.classLink RX9 157 "java/util/NoSuchElementException", Cond.initialized "java/util/NoSuchElementException", Cond.methodLink RL 148 yX10_number, Cond.instanceMethod yX10_number, Cond.selects RX10 yX10_number yX10_number, Cond.code yX10_number cX10_number 1 (some .int), Cond.methodLink RL 149 yL_value, Cond.static yL_value, Cond.codeWith yL_value cL_value 4 (some .int) [(0, 9, 12, 21), (0, 9, 15, 46)], Cond.methodLink RL 48 yX9_value, Cond.instanceMethod yX9_value, Cond.selects RX9 yX9_value yX9_value, Cond.code yX9_value cX9_value 2 (some .int), Cond.methodLink RX9 163 yX9_latestOf, Cond.static yX9_latestOf]
def wsL_law0_r26 : List Cond := [Cond.code yX9_latestOf cX9_latestOf 1 (some (.object "Commutator$Reading")), Cond.methodLink RL 151 yX10_value, Cond.instanceMethod yX10_value, Cond.selects RX10 yX10_value yX10_value, Cond.code yX10_value cX10_value 2 (some .int), Cond.methodLink RX10 178 yX10_hasSample, Cond.instanceMethod yX10_hasSample, Cond.selects RX10 yX10_hasSample yX10_hasSample, Cond.code yX10_hasSample cX10_hasSample 2 (some .boolean), Cond.methodLink RL 152 yL_time, Cond.static yL_time, Cond.codeWith yL_time cL_time 4 (some .int) [(0, 9, 12, 21), (0, 9, 15, 46)], Cond.methodLink RL 51 yX9_time, Cond.instanceMethod yX9_time, Cond.selects RX9 yX9_time yX9_time, Cond.code yX9_time cX9_time 2 (some .int), Cond.methodLink RL 154 yX10_time, Cond.instanceMethod yX10_time, Cond.selects RX10 yX10_time yX10_time, Cond.code yX10_time cX10_time 2 (some .int), Cond.methodLink RL 155 yL_samples, Cond.static yL_samples, Cond.codeWith yL_samples cL_samples 4 (some .int) [(0, 9, 12, 21)], Cond.methodLink RL 54 yX9_samples]
def wsL_law0_r27 : List Cond := [Cond.instanceMethod yX9_samples, Cond.selects RX9 yX9_samples yX9_samples, Cond.code yX9_samples cX9_samples 2 (some .int), Cond.methodLink RL 157 yX10_samples, Cond.instanceMethod yX10_samples, Cond.selects RX10 yX10_samples yX10_samples, Cond.code yX10_samples cX10_samples 2 (some .int), Cond.methodLink RL 158 yL_missing, Cond.static yL_missing, Cond.codeWith yL_missing cL_missing 4 (some .int) [(0, 9, 12, 21)], Cond.methodLink RL 57 yX9_missing, Cond.instanceMethod yX9_missing, Cond.selects RX9 yX9_missing yX9_missing, Cond.code yX9_missing cX9_missing 2 (some .int), Cond.methodLink RL 160 yX10_missing, Cond.instanceMethod yX10_missing, Cond.selects RX10 yX10_missing yX10_missing, Cond.code yX10_missing cX10_missing 2 (some .int), Cond.methodLink RL 161 yL_derive, Cond.static yL_derive, Cond.codeWith yL_derive cL_derive 6 (some .int) [(0, 9, 12, 13), (0, 9, 16, 15)], Cond.methodLink RL 60 yX9_derive, Cond.instanceMethod yX9_derive, Cond.selects RX9 yX9_derive yX9_derive]
def wsL_law0_r28 : List Cond := [Cond.code yX9_derive cX9_derive 5 none, Cond.methodLink RX9 181 yX9_isDerived, Cond.static yX9_isDerived, Cond.code yX9_isDerived cX9_isDerived 1 (some .boolean), Cond.methodLink RX9 184 yX9_isOperand, Cond.static yX9_isOperand, Cond.code yX9_isOperand cX9_isOperand 1 (some .boolean), Cond.methodLink RX9 187 yX2_wouldNeedItself, Cond.instanceMethod yX2_wouldNeedItself, Cond.selects RX2 yX2_wouldNeedItself yX2_wouldNeedItself, Cond.code yX2_wouldNeedItself cX2_wouldNeedItself 6 (some .boolean), Cond.methodLink RX2 36 yX2_operandMask, Cond.static yX2_operandMask, Cond.code yX2_operandMask cX2_operandMask 1 (some .int), Cond.methodLink RX2 40 yX2_needsOf, Cond.instanceMethod yX2_needsOf, Cond.selects RX2 yX2_needsOf yX2_needsOf, Cond.code yX2_needsOf cX2_needsOf 5 (some .int), Cond.methodLink RX9 191 yX2_define, Cond.instanceMethod yX2_define, Cond.selects RX2 yX2_define yX2_define, Cond.code yX2_define cX2_define 6 none, Cond.methodLink RX2 18 yX2_at, Cond.instanceMethod yX2_at]
def wsL_law0_r29 : List Cond := [Cond.selects RX2 yX2_at yX2_at, Cond.code yX2_at cX2_at 2 (some (.object "Commutator$Derived")), Cond.methodLink RL 164 yX10_derive, Cond.instanceMethod yX10_derive, Cond.selects RX10 yX10_derive yX10_derive, Cond.code yX10_derive cX10_derive 6 none, Cond.methodLink RX10 181 yX10_isOperand, Cond.static yX10_isOperand, Cond.code yX10_isOperand cX10_isOperand 1 (some .boolean), Cond.methodLink RX10 184 yX10_comesTo, Cond.instanceMethod yX10_comesTo, Cond.selects RX10 yX10_comesTo yX10_comesTo, Cond.code yX10_comesTo cX10_comesTo 7 (some .boolean), Cond.methodLink RL 165 yL_derivedValue, Cond.static yL_derivedValue, Cond.codeWith yL_derivedValue cL_derivedValue 4 (some .int) [(0, 9, 12, 13), (0, 9, 15, 46)], Cond.methodLink RL 64 yX9_derivedValue, Cond.instanceMethod yX9_derivedValue, Cond.selects RX9 yX9_derivedValue yX9_derivedValue, Cond.code yX9_derivedValue cX9_derivedValue 2 (some .int), Cond.methodLink RX9 195 yX9_resultOf, Cond.instanceMethod yX9_resultOf, Cond.selects RX9 yX9_resultOf yX9_resultOf, Cond.code yX9_resultOf cX9_resultOf 3 (some (.object "Commutator$Reading"))]
def wsL_law0_r30 : List Cond := [Cond.methodLink RX9 212 yX2_compute, Cond.instanceMethod yX2_compute, Cond.selects RX2 yX2_compute yX2_compute, Cond.code yX2_compute cX2_compute 5 (some (.object "Commutator$Reading")), Cond.methodLink RX2 47 yX6_forget, Cond.instanceMethod yX6_forget, Cond.selects RX6 yX6_forget yX6_forget, Cond.code yX6_forget cX6_forget 1 none, Cond.methodLink RX2 52 yX2_computeOne, Cond.instanceMethod yX2_computeOne, Cond.selects RX2 yX2_computeOne yX2_computeOne, Cond.code yX2_computeOne cX2_computeOne 5 none, Cond.methodLink RX2 59 yX2_operand, Cond.instanceMethod yX2_operand, Cond.selects RX2 yX2_operand yX2_operand, Cond.code yX2_operand cX2_operand 4 (some (.object "Commutator$Reading")), Cond.methodLink RX2 67 yX5_at, Cond.methodLink RX2 63 yX1_combine, Cond.instanceMethod yX1_combine, Cond.selects RX1 yX1_combine yX1_combine, Cond.code yX1_combine cX1_combine 4 none, Cond.constantLong RX1 16 (-1000000), Cond.constantLong RX1 18 (1000000), Cond.methodLink RX1 28 Lib.MathLoose.min_long.x]
def wsL_law0_r31 : List Cond := [Cond.static Lib.MathLoose.min_long.x, Cond.code Lib.MathLoose.min_long.x Lib.MathLoose.min_long.code 4 (some .long), Cond.methodLink RX1 33 Lib.MathLoose.max_long.x, Cond.static Lib.MathLoose.max_long.x, Cond.code Lib.MathLoose.max_long.x Lib.MathLoose.max_long.code 4 (some .long), Cond.methodLink RX1 39 Lib.Math.max.name, Cond.static Lib.Math.max.name, Cond.code Lib.Math.max.name Lib.Math.max.code 2 (some .int), Cond.methodLink RX1 24 yX1_operate, Cond.instanceMethod yX1_operate, Cond.selects RX1 yX1_operate yX1_operate, Cond.code yX1_operate cX1_operate 5 (some .long), Cond.fieldLink RX1 46 "Commutator$Derived" "operation" "I", Cond.methodLink RX1 42 yX6_set, Cond.methodLink RL 167 yX10_derivedValue, Cond.instanceMethod yX10_derivedValue, Cond.selects RX10 yX10_derivedValue yX10_derivedValue, Cond.code yX10_derivedValue cX10_derivedValue 2 (some .int), Cond.methodLink RX10 207 yX10_isDerived, Cond.instanceMethod yX10_isDerived, Cond.selects RX10 yX10_isDerived yX10_isDerived, Cond.code yX10_isDerived cX10_isDerived 2 (some .boolean), Cond.methodLink RX10 204 yX10_derives, Cond.instanceMethod yX10_derives]
def wsL_law0_r32 : List Cond := [Cond.selects RX10 yX10_derives yX10_derives, Cond.code yX10_derives cX10_derives 3 none, Cond.methodLink RX10 191 yX10_hasValue, Cond.instanceMethod yX10_hasValue, Cond.selects RX10 yX10_hasValue yX10_hasValue, Cond.code yX10_hasValue cX10_hasValue 2 (some .boolean), Cond.methodLink RX10 194 yX10_valueOf, Cond.instanceMethod yX10_valueOf, Cond.selects RX10 yX10_valueOf yX10_valueOf, Cond.code yX10_valueOf cX10_valueOf 2 (some .int), Cond.methodLink RX10 197 yX10_made, Cond.static yX10_made, Cond.code yX10_made cX10_made 7 (some .int), Cond.constantLong RX10 187 (1000000), Cond.constantLong RX10 189 (-1000000), Cond.methodLink RX10 201 yX10_timeOf, Cond.instanceMethod yX10_timeOf, Cond.selects RX10 yX10_timeOf yX10_timeOf, Cond.code yX10_timeOf cX10_timeOf 2 (some .int), Cond.methodLink RL 168 yL_derivedTime, Cond.static yL_derivedTime, Cond.codeWith yL_derivedTime cL_derivedTime 4 (some .int) [(0, 9, 12, 13), (0, 9, 15, 46)], Cond.methodLink RL 67 yX9_derivedTime, Cond.instanceMethod yX9_derivedTime]
def wsL_law0_r33 : List Cond := [Cond.selects RX9 yX9_derivedTime yX9_derivedTime, Cond.code yX9_derivedTime cX9_derivedTime 2 (some .int), Cond.methodLink RL 170 yX10_derivedTime, Cond.instanceMethod yX10_derivedTime, Cond.selects RX10 yX10_derivedTime yX10_derivedTime, Cond.code yX10_derivedTime cX10_derivedTime 2 (some .int), Cond.methodLink RL 171 yL_matches, Cond.static yL_matches, Cond.codeWith yL_matches cL_matches 4 (some .int) [(0, 9, 12, 13)], Cond.methodLink RL 70 yX9_matches, Cond.instanceMethod yX9_matches, Cond.selects RX9 yX9_matches yX9_matches, Cond.code yX9_matches cX9_matches 2 (some .int), Cond.methodLink RX9 199 yX8_syncWordsAt, Cond.instanceMethod yX8_syncWordsAt, Cond.selects RX8 yX8_syncWordsAt yX8_syncWordsAt, Cond.code yX8_syncWordsAt cX8_syncWordsAt 2 (some .int), Cond.methodLink RL 173 yX10_matches, Cond.instanceMethod yX10_matches, Cond.selects RX10 yX10_matches yX10_matches, Cond.code yX10_matches cX10_matches 2 (some .int), Cond.methodLink RX10 210 yX10_matchesAt, Cond.instanceMethod yX10_matchesAt, Cond.selects RX10 yX10_matchesAt yX10_matchesAt]
def wsL_law0_r34 : List Cond := [Cond.code yX10_matchesAt cX10_matchesAt 4 (some .int), Cond.methodLink RL 174 yX9_bestOffset, Cond.instanceMethod yX9_bestOffset, Cond.selects RX9 yX9_bestOffset yX9_bestOffset, Cond.code yX9_bestOffset cX9_bestOffset 3 (some .int), Cond.methodLink RL 177 yX10_bestOffset, Cond.instanceMethod yX10_bestOffset, Cond.selects RX10 yX10_bestOffset yX10_bestOffset, Cond.code yX10_bestOffset cX10_bestOffset 3 (some .int)]
def wsL_law0 : List Cond := (wsL_law0_r1 ++ (wsL_law0_r2 ++ (wsL_law0_r3 ++ (wsL_law0_r4 ++ (wsL_law0_r5 ++ (wsL_law0_r6 ++ (wsL_law0_r7 ++ (wsL_law0_r8 ++ (wsL_law0_r9 ++ (wsL_law0_r10 ++ (wsL_law0_r11 ++ (wsL_law0_r12 ++ (wsL_law0_r13 ++ (wsL_law0_r14 ++ (wsL_law0_r15 ++ (wsL_law0_r16 ++ (wsL_law0_r17 ++ (wsL_law0_r18 ++ (wsL_law0_r19 ++ (wsL_law0_r20 ++ (wsL_law0_r21 ++ (wsL_law0_r22 ++ (wsL_law0_r23 ++ (wsL_law0_r24 ++ (wsL_law0_r25 ++ (wsL_law0_r26 ++ (wsL_law0_r27 ++ (wsL_law0_r28 ++ (wsL_law0_r29 ++ (wsL_law0_r30 ++ (wsL_law0_r31 ++ (wsL_law0_r32 ++ (wsL_law0_r33 ++ wsL_law0_r34))))))))))))))))))))))))))))))))) ++ wsX90 ++ wsX100 ++ wsX50 ++ wsX30 ++ wsX70 ++ wsX80 ++ wsX00 ++ wsX20 ++ wsX10 ++ wsX60 ++ wsX40 ++ ([] : List Cond)
def wsL_law : List Cond := wsL_law0 ++ (vx_at0 RX9 57 "java/lang/IllegalArgumentException" ["java/lang/RuntimeException", "java/lang/Exception"]).filter goodWord ++ (vx_at0 RX9 67 "java/lang/IllegalStateException" ["java/lang/RuntimeException", "java/lang/Exception"]).filter goodWord ++ (vx_at0 RX9 109 "java/lang/IndexOutOfBoundsException" ["java/lang/RuntimeException", "java/lang/Exception"]).filter goodWord ++ (vx_at0 RX9 159 "java/util/NoSuchElementException" ["java/lang/RuntimeException", "java/lang/Exception"]).filter goodWord
theorem inX0 : ∀ w ∈ wsX00, w ∈ lw_tbl := by decide +kernel
theorem inX1 : ∀ w ∈ wsX10, w ∈ lw_tbl := by decide +kernel
theorem inX2 : ∀ w ∈ wsX20, w ∈ lw_tbl := by decide +kernel
theorem inX3 : ∀ w ∈ wsX30, w ∈ lw_tbl := by decide +kernel
theorem inX4 : ∀ w ∈ wsX40, w ∈ lw_tbl := by decide +kernel
theorem inX5 : ∀ w ∈ wsX50, w ∈ lw_tbl := by decide +kernel
theorem inX6 : ∀ w ∈ wsX60, w ∈ lw_tbl := by decide +kernel
theorem inX7 : ∀ w ∈ wsX70, w ∈ lw_tbl := by decide +kernel
theorem inX8 : ∀ w ∈ wsX80, w ∈ lw_tbl := by decide +kernel
theorem inX9 : ∀ w ∈ wsX90, w ∈ lw_tbl := by decide +kernel
theorem inX10 : ∀ w ∈ wsX100, w ∈ lw_tbl := by decide +kernel
end
section
abbrev vwCl : List vw_C := [(RX0, TX0, 5), (RX1, TX1, 5), (RX2, TX2, 1), (RX3, TX3, 3), (RX4, TX4, 10), (RX5, TX5, 3), (RX6, TX6, 3), (RX7, TX7, 2), (RX8, TX8, 7), (RX9, TX9, 6), (RX10, TX10, 35)]
/-! ===== the world by numbers: cell k lies at ad k and holds w k ===== -/
def gu {α : Type} (A : Nat → Nat → α) (k j : Nat) (v : α) : Nat → Nat → α := fun k' => if k' = k then (fun j' => if j' = j then v else A k j') else A k'
theorem gu_self {α : Type} (A : Nat → Nat → α) (k j : Nat) (v : α) : gu A k j v k = fun j' => if j' = j then v else A k j' := if_pos rfl
theorem gu_ne {α : Type} (A : Nat → Nat → α) {k k' : Nat} (j : Nat) (v : α) (h : k' ≠ k) : gu A k j v k' = A k' := if_neg h
theorem gu_at {α : Type} (A : Nat → Nat → α) (k j : Nat) (v : α) (k' j' : Nat) : gu A k j v k' j' = if k' = k ∧ j' = j then v else A k' j' := by
  unfold gu
  by_cases h : k' = k
  · subst h
    by_cases h2 : j' = j <;> simp [h2]
  · simp [h]
/-- a whole row of a cell -/
def gr {α : Type} (A : Nat → Nat → α) (k : Nat) (f : Nat → α) : Nat → Nat → α := fun k' => if k' = k then f else A k'
theorem gr_self {α : Type} (A : Nat → Nat → α) (k : Nat) (f : Nat → α) : gr A k f k = f := if_pos rfl
theorem gr_ne {α : Type} (A : Nat → Nat → α) {k k' : Nat} (f : Nat → α) (h : k' ≠ k) : gr A k f k' = A k' := if_neg h
theorem gu_gr {α : Type} (A : Nat → Nat → α) (k j : Nat) (v : α) : gu A k j v = gr A k (fun j' => if j' = j then v else A k j') := rfl
def gl (ad : Nat → Nat) (N : Nat) (w : Nat → va_E) : va_W := (List.range N).map fun k => (ad k, w k)
theorem gl_at {ad : Nat → Nat} {N : Nat} {w : Nat → va_E} {k : Nat} (h : k < N) : (gl ad N w)[k]? = some (ad k, w k) := by
  unfold gl
  rw [List.getElem?_map, List.getElem?_range h]
  rfl
theorem gl_ext {ad ad' : Nat → Nat} {N : Nat} {w w' : Nat → va_E} (h : ∀ k, k < N → ad k = ad' k) (h2 : ∀ k, k < N → w k = w' k) : gl ad N w = gl ad' N w' := by
  unfold gl
  refine List.map_congr_left fun k hk => ?_
  rw [h k (List.mem_range.mp hk), h2 k (List.mem_range.mp hk)]
theorem gl_set {ad : Nat → Nat} {N : Nat} {w : Nat → va_E} {k : Nat} (e : va_E) (h : k < N) : (gl ad N w).set k (ad k, e) = gl ad N (va_up w k e) := by
  refine List.ext_getElem? fun i => ?_
  by_cases hi : i < N
  · rw [gl_at hi]
    by_cases hk : i = k
    · subst hk
      rw [List.getElem?_set_self (by unfold gl; simpa using h), va_up_self]
    · rw [List.getElem?_set_ne (Ne.symm hk), gl_at hi, va_up_ne _ _ hk]
  · rw [List.getElem?_eq_none (by unfold gl; simp; omega), List.getElem?_eq_none (by unfold gl; simp; omega)]
theorem gl_push (ad : Nat → Nat) (N : Nat) (w : Nat → va_E) (q : Nat) (e : va_E) : gl ad N w ++ [(q, e)] = gl (va_up ad N q) (N + 1) (va_up w N e) := by
  unfold gl
  rw [List.range_succ, List.map_append]
  congr 1
  · refine List.map_congr_left fun k hk => ?_
    have : k ≠ N := Nat.ne_of_lt (List.mem_range.mp hk)
    rw [va_up_ne _ _ this, va_up_ne _ _ this]
  · simp [va_up]
/-- the class numbers of the arrays: int, long, boolean, Derived, Point -/
abbrev gty (cy : Nat → ClassId) : List (ClassId × FieldType) := [(cy 0, .int), (cy 1, .long), (cy 2, .boolean), (cy 3, .object "Commutator$Derived"), (cy 4, .object "Commutator$Point")]
/-- what cell k holds: a its ints, j its longs; n points are there -/
def gC0 (cy : Nat → ClassId) (ad : Nat → Nat) (n : Nat) (k : Nat) (a : Nat → Int32) (j : Nat → Int64) : va_E := match k with
  | 0 => .inr (9, [.ref (ad 1), .ref (ad 4), .ref (ad 6), .ref (ad 7), .ref (ad 9), .ref (ad 10)])
  | 1 => .inr (5, [.ref (ad 2), .int (a 1), .ref (ad 3)])
  | 2 => .inl (cy 4, 12, .inr (.inr (.inr (.inr (fun i => if i < n then some (ad (50 + 2 * i)) else none)))))
  | 3 => .inl (cy 1, 4, .inr (.inl j))
  | 4 => .inr (3, [.ref (ad 5), .int (a 1), .int (a 2)])
  | 5 => .inl (cy 0, 8000, .inl a)
  | 6 => .inr (7, [.int (a 0), .long (j 1)])
  | 7 => .inr (8, [.int (a 0), .int (a 1), .long (j 2), .int (a 3), .int (a 4), .int (a 5), .ref (ad 8)])
  | 8 => .inl (cy 0, 64, .inl a)
  | 9 => .inr (0, [.int (a 0), .int (a 1), .int (a 2), .int (a 3), .int (a 4)])
  | 10 => .inr (2, [.ref (ad 11)])
  | _ => .inl (cy 3, 8, .inr (.inr (.inr (.inr (fun i => if i < 8 then some (ad (12 + 2 * i)) else none)))))
def gC1 (cy : Nat → ClassId) (ad : Nat → Nat) (k : Nat) (a : Nat → Int32) (j : Nat → Int64) : va_E := match k with
  | 28 => .inr (10, [.int (a 0), .ref (ad 29), .ref (ad 30), .ref (ad 31), .ref (ad 32), .ref (ad 33), .ref (ad 34), .ref (ad 35), .ref (ad 36), .int (a 9), .int (a 10), .ref (ad 37), .int (a 12), .ref (ad 38), .int (a 14), .int (a 15), .int (a 16), .int (a 17), .int (a 18), .int (a 19), .int (a 20), .int (a 21), .int (a 22), .int (a 23), .ref (ad 39), .ref (ad 40), .ref (ad 41), .ref (ad 42), .ref (ad 43), .ref (ad 44), .ref (ad 45), .ref (ad 46), .ref (ad 47), .ref (ad 48), .int (a 34)])
  | 36 => .inl (cy 0, 24, .inl a)
  | 37 => .inl (cy 0, 8000, .inl a)
  | 38 => .inl (cy 0, 8000, .inl a)
  | 43 => .inl (cy 0, 8, .inl a)
  | 44 => .inl (cy 0, 8, .inl a)
  | 45 => .inl (cy 0, 8, .inl a)
  | 46 => .inl (cy 2, 8, .inl a)
  | 47 => .inl (cy 0, 8, .inl a)
  | 48 => .inl (cy 0, 8, .inl a)
  | 49 => .inl (cy 1, 1, .inr (.inl j))
  | _ => .inl (cy 0, 12, .inl a)
def gPt (ad : Nat → Nat) (k : Nat) (a : Nat → Int32) : va_E := .inr (4, [.int (a 0), .int (a 1), .int (a 2), .int (a 3), .int (a 4), .int (a 5), .int (a 6), .ref (ad (k + 1)), .int (a 8), .int (a 9)])
def gRd (a : Nat → Int32) : va_E := .inr (6, [.int (a 0), .int (a 1), .int (a 2)])
def gDv (ad : Nat → Nat) (k : Nat) (a : Nat → Int32) : va_E := .inr (1, [.int (a 0), .int (a 1), .int (a 2), .int (a 3), .ref (ad (k + 1))])
def gC (cy : Nat → ClassId) (ad : Nat → Nat) (n : Nat) (k : Nat) (a : Nat → Int32) (j : Nat → Int64) : va_E :=
  if k < 12 then gC0 cy ad n k a j else if k < 28 then (if k % 2 = 0 then gDv ad k a else gRd a) else if k < 50 then gC1 cy ad k a j else (if k % 2 = 0 then gPt ad k a else gRd a)
def gw (cy : Nat → ClassId) (ad : Nat → Nat) (n : Nat) (A : Nat → Nat → Int32) (J : Nat → Nat → Int64) : Nat → va_E := fun k => gC cy ad n k (A k) (J k)
theorem gw_pt (cy : Nat → ClassId) (ad : Nat → Nat) (n : Nat) (A : Nat → Nat → Int32) (J : Nat → Nat → Int64) (i : Nat) : gw cy ad n A J (50 + 2 * i) = gPt ad (50 + 2 * i) (A (50 + 2 * i)) := by
  unfold gw gC
  rw [if_neg (by omega), if_neg (by omega), if_neg (by omega), if_pos (by omega)]
theorem gw_rp (cy : Nat → ClassId) (ad : Nat → Nat) (n : Nat) (A : Nat → Nat → Int32) (J : Nat → Nat → Int64) (i : Nat) : gw cy ad n A J (50 + 2 * i + 1) = gRd (A (50 + 2 * i + 1)) := by
  unfold gw gC
  rw [if_neg (by omega), if_neg (by omega), if_neg (by omega), if_neg (by omega)]
theorem gw_dv (cy : Nat → ClassId) (ad : Nat → Nat) (n : Nat) (A : Nat → Nat → Int32) (J : Nat → Nat → Int64) {i : Nat} (h : i < 8) : gw cy ad n A J (12 + 2 * i) = gDv ad (12 + 2 * i) (A (12 + 2 * i)) := by
  unfold gw gC
  rw [if_neg (by omega), if_pos (by omega), if_pos (by omega)]
theorem gw_rd (cy : Nat → ClassId) (ad : Nat → Nat) (n : Nat) (A : Nat → Nat → Int32) (J : Nat → Nat → Int64) {i : Nat} (h : i < 8) : gw cy ad n A J (12 + 2 * i + 1) = gRd (A (12 + 2 * i + 1)) := by
  unfold gw gC
  rw [if_neg (by omega), if_pos (by omega), if_neg (by omega)]
/-- a cell that is a reading -/
def gIsR (n k : Nat) : Prop := k < 50 + 2 * n ∧ k % 2 = 1 ∧ ((12 ≤ k ∧ k < 28) ∨ 50 ≤ k)
theorem gw_r {cy : Nat → ClassId} {ad : Nat → Nat} {n : Nat} {A : Nat → Nat → Int32} {J : Nat → Nat → Int64} {k : Nat} (h : gIsR n k) : gw cy ad n A J k = gRd (A k) := by
  unfold gw gC
  obtain ⟨-, h2, h3⟩ := h
  rcases h3 with h3 | h3
  · rw [if_neg (by omega), if_pos (by omega), if_neg (by omega)]
  · rw [if_neg (by omega), if_neg (by omega), if_neg (by omega), if_neg (by omega)]
/-- one cell's row of ints changes, nothing else -/
theorem gw_row {cy : Nat → ClassId} {ad : Nat → Nat} {n : Nat} {A : Nat → Nat → Int32} {J : Nat → Nat → Int64} {k : Nat} {f : Nat → Int32} {e : va_E} (h : gC cy ad n k f (J k) = e) : ∀ q, va_up (gw cy ad n A J) k e q = gw cy ad n (gr A k f) J q := by
  intro q
  by_cases hq : q = k
  · subst hq
    rw [va_up_self]
    unfold gw
    rw [gr_self, h]
  · rw [va_up_ne _ _ hq]
    unfold gw
    rw [gr_ne _ _ hq]
theorem gw_rowJ {cy : Nat → ClassId} {ad : Nat → Nat} {n : Nat} {A : Nat → Nat → Int32} {J : Nat → Nat → Int64} {k : Nat} {f : Nat → Int64} {e : va_E} (h : gC cy ad n k (A k) f = e) : ∀ q, va_up (gw cy ad n A J) k e q = gw cy ad n A (gr J k f) q := by
  intro q
  by_cases hq : q = k
  · subst hq
    rw [va_up_self]
    unfold gw
    rw [gr_self, h]
  · rw [va_up_ne _ _ hq]
    unfold gw
    rw [gr_ne _ _ hq]
/-- the heap holds the world w of N cells; what was before base is as it was -/
def gH (D : va_G) (base : Nat) (s : State) (ad : Nat → Nat) (N : Nat) (w : Nat → va_E) (H : Heap) (locs : List Loc) : Prop := va_P D vwCl (gl ad N w) H ∧ va_D (fun q => base ≤ q) (gl ad N w) ∧ va_S (fun q => base ≤ q) s.heap H locs
theorem gH.to {D : va_G} {base : Nat} {s : State} {ad : Nat → Nat} {N : Nat} {w w' : Nat → va_E} {H : Heap} {locs : List Loc} (h : gH D base s ad N w H locs) (e : ∀ k, w k = w' k) : gH D base s ad N w' H locs := by
  have : w = w' := funext e
  subst this
  exact h
/-- what every method is given: the classes, the words on the nest, what the throws need -/
def gnest : List Cond := [.methodLinkNest "Commutator" 9 ⟨"Commutator$PointTable", "<init>", "()V"⟩ "Commutator", .fieldLinkNest "Commutator" 68 "Commutator$PointTable" "count" "I" "Commutator", .fieldLinkNest "Commutator$Sender" 30 "Commutator$PointTable" "count" "I" "Commutator", .fieldLinkNest "Commutator$Decoder" 35 "Commutator$PointTable" "count" "I" "Commutator", .methodLinkNest "Commutator" 18 ⟨"Commutator$Line", "<init>", "()V"⟩ "Commutator", .methodLinkNest "Commutator" 25 ⟨"Commutator$Sender", "<init>", "()V"⟩ "Commutator", .fieldLinkNest "Commutator" 58 "Commutator$Sender" "wordsSent" "I" "Commutator", .methodLinkNest "Commutator" 32 ⟨"Commutator$Synchroniser", "<init>", "()V"⟩ "Commutator", .fieldLinkNest "Commutator" 145 "Commutator$Synchroniser" "mode" "I" "Commutator", .fieldLinkNest "Commutator" 148 "Commutator$Synchroniser" "takenBits" "I" "Commutator", .fieldLinkNest "Commutator" 137 "Commutator$Synchroniser" "latest" "J" "Commutator", .methodLinkNest "Commutator" 39 ⟨"Commutator$Decoder", "<init>", "()V"⟩ "Commutator", .fieldLinkNest "Commutator" 121 "Commutator$Decoder" "usedFrames" "I" "Commutator", .fieldLinkNest "Commutator" 151 "Commutator$Decoder" "lostFrames" "I" "Commutator", .fieldLinkNest "Commutator" 154 "Commutator$Decoder" "repeatedFrames" "I" "Commutator", .fieldLinkNest "Commutator" 160 "Commutator$Decoder" "latestNumber" "I" "Commutator", .methodLinkNest "Commutator$DerivedTable" 17 ⟨"Commutator$Derived", "<init>", "()V"⟩ "Commutator", .methodLinkNest "Commutator$Derived" 9 ⟨"Commutator$Reading", "<init>", "()V"⟩ "Commutator", .fieldLinkNest "Commutator$DerivedTable" 56 "Commutator$Reading" "known" "Z" "Commutator", .fieldLinkNest "Commutator" 208 "Commutator$Reading" "known" "Z" "Commutator", .fieldLinkNest "Commutator$Derived" 20 "Commutator$Reading" "amount" "I" "Commutator", .fieldLinkNest "Commutator" 167 "Commutator$Reading" "amount" "I" "Commutator", .fieldLinkNest "Commutator$Derived" 36 "Commutator$Reading" "moment" "I" "Commutator", .fieldLinkNest "Commutator" 172 "Commutator$Reading" "moment" "I" "Commutator", .fieldLinkNest "Commutator$DerivedTable" 22 "Commutator$Derived" "defined" "Z" "Commutator", .fieldLinkNest "Commutator$DerivedTable" 26 "Commutator$Derived" "operation" "I" "Commutator", .fieldLinkNest "Commutator$DerivedTable" 30 "Commutator$Derived" "first" "I" "Commutator", .fieldLinkNest "Commutator$DerivedTable" 33 "Commutator$Derived" "second" "I" "Commutator", .fieldLinkNest "Commutator$DerivedTable" 43 "Commutator$Derived" "result" "LCommutator$Reading;" "Commutator", .methodLinkNest "Commutator$Point" 33 ⟨"Commutator$Reading", "<init>", "()V"⟩ "Commutator", .fieldLinkNest "Commutator" 75 "Commutator$Point" "phase" "I" "Commutator", .fieldLinkNest "Commutator" 80 "Commutator$Point" "offset" "I" "Commutator", .fieldLinkNest "Commutator$Sender" 53 "Commutator$Point" "present" "I" "Commutator", .fieldLinkNest "Commutator" 93 "Commutator$Point" "present" "I" "Commutator", .fieldLinkNest "Commutator$DerivedTable" 72 "Commutator$Point" "latest" "LCommutator$Reading;" "Commutator", .fieldLinkNest "Commutator" 205 "Commutator$Point" "latest" "LCommutator$Reading;" "Commutator", .fieldLinkNest "Commutator" 175 "Commutator$Point" "sampleCount" "I" "Commutator", .fieldLinkNest "Commutator" 178 "Commutator$Point" "missingCount" "I" "Commutator"]
def gisN (w : Cond) : Bool := match w with
  | .fieldLinkNest _ _ _ _ _ _ => true
  | .methodLinkNest _ _ _ _ => true
  | _ => false
theorem gnest_is : ∀ w ∈ gnest, gisN w = true := by decide +kernel
theorem gnest_tbl : ∀ w ∈ gnest, w ∈ lw_tbl := by decide +kernel
def gE (D : va_G) (cy : Nat → ClassId) (base : Nat) (U : State) : Prop := va_K D vwCl (gty cy) U ∧ (∀ w ∈ gnest, va_Nw w U) ∧ base ≤ U.heap.size ∧ vx_Zq Bundle.tN "UNASSIGNED_STACK" Bundle.steD (fun q => base ≤ q) U U.heap ∧ vx_Zq Bundle.tN "SUPPRESSED_SENTINEL" Bundle.listD (fun q => base ≤ q) U U.heap
theorem gnest_warm {s U : State} (hW : s.WarmedH U.vm) {w : Cond} (hw : w ∈ gnest) (h : va_Nw w s) : va_Nw w U := by
  have h2 := gnest_is w hw
  cases w <;> first | exact va_Nw.warmF hW h | exact va_Nw.warmM hW h | (simp [gisN] at h2)
theorem gnest_tabs {w : Cond} (hw : w ∈ gnest) : w.onTables = true := by
  have h2 := gnest_is w hw
  cases w <;> first | rfl | (simp [gisN] at h2)
theorem gE.warm {D : va_G} {cy : Nat → ClassId} {base : Nat} {s U : State} {H : Heap} {locs : List Loc} (h : gE D cy base s) (hS : va_S (fun q => base ≤ q) s.heap H locs) (hU : U.heap = H) (hW : s.WarmedH U.vm) : gE D cy base U := by
  obtain ⟨h1, h2, h3, h4, h5⟩ := h
  refine ⟨h1.moved hW.alike, fun w hw => gnest_warm hW hw (h2 w hw), ?_, ?_, ?_⟩
  · rw [hU]; exact Nat.le_trans h3 hS.1
  · rw [hU]; exact (h4.moved hW.alike).kept (fun a ha hn => hS.2.1 a ha hn)
  · rw [hU]; exact (h5.moved hW.alike).kept (fun a ha hn => hS.2.1 a ha hn)
theorem gE.blind {D : va_G} {cy : Nat → ClassId} {base : Nat} {U : State} {g : JFrame} {mk : MethodId} {a : Array Value} (h : gE D cy base U) : gE D cy base (U.calling g mk a) := by
  obtain ⟨h1, h2, h3, h4, h5⟩ := h
  exact ⟨h1.moved (u := U) (U := U.calling g mk a) (Vm.Alike.refl U.vm), fun w hw => va_Nw.same (gnest_tabs hw) (u := U) (U := U.calling g mk a) rfl (h2 w hw), h3, h4.moved (u := U) (U := U.calling g mk a) (Vm.Alike.refl U.vm), h5.moved (u := U) (U := U.calling g mk a) (Vm.Alike.refl U.vm)⟩
abbrev gS : Type := (Nat → Nat → Int32) × (Nat → Nat → Int64)
def gQc {S : Type} (post : Option Value → S → Prop) (B : S → State → Prop) (A : Nat → Prop) : Array Value → State → Outcome → State → Prop := fun _ st oc t => (∃ (v : Option Value) (u : S), oc = .returned v ∧ post v u ∧ B u t) ∧ va_F A st t
/-- the start of a method: its arguments, the world -/
def gPre (D : va_G) (cy : Nat → ClassId) (base : Nat) (ad : Nat → Nat) (N : Nat) (w : Nat → va_E) (av : List Value) : Array Value → State → Prop := va_Pc av (fun U => gE D cy base U ∧ va_P D vwCl (gl ad N w) U.heap ∧ va_D (fun q => base ≤ q) (gl ad N w))
/-- its end: the same cells -/
def gPost (D : va_G) (cy : Nat → ClassId) (base : Nat) (ad : Nat → Nat) (n : Nat) (post : Option Value → gS → Prop) : Array Value → State → Outcome → State → Prop := gQc post (fun u t => va_P D vwCl (gl ad (50 + 2 * n) (gw cy ad n u.1 u.2)) t.heap) (fun q => base ≤ q)
abbrev gMet (l : Launch) (y : MethodName) (ws : List Cond) (rm : Room) (D : va_G) (cy : Nat → ClassId) (base : Nat) (ad : Nat → Nat) (n : Nat) (A : Nat → Nat → Int32) (J : Nat → Nat → Int64) (av : List Value) (post : Option Value → gS → Prop) : Prop :=
  Met l y ws rm (gPre D cy base ad (50 + 2 * n) (gw cy ad n A J) av) (gPost D cy base ad n post) 0 0 (fun q => base ≤ q)
theorem gPre.blind {D : va_G} {cy : Nat → ClassId} {base : Nat} {ad : Nat → Nat} {N : Nat} {w : Nat → va_E} {av : List Value} : FrameBlind (gPre D cy base ad N w av) := fun a U g mk h => ⟨h.1, h.2.1.blind, h.2.2.1, h.2.2.2⟩
theorem gl_D {A : Nat → Prop} {ad : Nat → Nat} {N : Nat} {w w' : Nat → va_E} (h : va_D A (gl ad N w)) : va_D A (gl ad N w') := by
  have key : ∀ (k : Nat) (q : Nat × va_E), (gl ad N w')[k]? = some q → k < N ∧ q.1 = ad k := by
    intro k q hk
    by_cases hN : k < N
    · rw [gl_at hN] at hk
      cases hk
      exact ⟨hN, rfl⟩
    · rw [List.getElem?_eq_none (by unfold gl; simp; omega)] at hk
      cases hk
  refine ⟨fun i j p q hi hj hpq => ?_, fun k q hk => ?_⟩
  · obtain ⟨a1, a2⟩ := key i p hi
    obtain ⟨b1, b2⟩ := key j q hj
    exact h.1 i j _ _ (gl_at a1) (gl_at b1) (by show ad i = ad j; rw [← a2, ← b2, hpq])
  · obtain ⟨a1, a2⟩ := key k q hk
    rw [a2]
    exact h.2 k _ (gl_at a1)
end
section
/-! ===== rows over the numbered world ===== -/
section GR
variable {p : Program} {l : Launch} {e : Env} {R : Room} {s : State} {m : MethodId} {args : Array Value} {below : List Frame} {meth : Method} {c : Code} {H : Heap} {locs : List Loc} {cells slots : Nat} {Q : State → Prop}
variable {cc : ByteArray} {pc : Nat} {ls : Array Slot} {rest : List Value} {D : va_G} {cy : Nat → ClassId} {base : Nat} {ad : Nat → Nat} {N n : Nat} {w : Nat → va_E} {A : Nat → Nat → Int32} {J : Nat → Nat → Int64}
theorem g_get (hx : p.tables.exec = Jvm.exec) (hb : c.code = cc) {own C : String} {T : u_T} {NN ci index : Nat} {Ts : List Cond} (hts : ∀ w ∈ Ts, w.before args s = true) (hin : ∀ w ∈ u_ws C T NN, w ∈ Ts) (hown : s.vm.findClass own = some m.cls) (hE : gE D cy base s) (hG : gH D base s ad N w H locs) {k : Nat} (hk : k < N) {fs : List Value} (he : w k = .inr (ci, fs)) (hc : vwCl[ci]? = some (C, T, NN)) (j : Nat) (hj : j < NN) (hlink : (Cond.fieldLink own index C (T j).2.1 (T j).2.2.1).before args s = true) (hsame : (T j).1 = C) {v : Value} (hv : fs[j]? = some v) (hdg : decode cc pc = .ok (.getfield index, 3))
    (kk : W p l e R s m args below meth c H locs cells slots Q (F0 m (pc + 3) ls (v :: rest))) : W p l e R s m args below meth c H locs cells slots Q (F0 m pc ls (.ref (ad k) :: rest)) :=
  va_get hx hb hts hin hown hE.1 hG.1 k (by rw [gl_at hk, he]) hc j hj hlink (fun x h => by rw [hsame] at h; exact h) hv hdg kk
theorem g_getN (hx : p.tables.exec = Jvm.exec) (hb : c.code = cc) {own C host : String} {T : u_T} {NN ci index : Nat} {Ts : List Cond} (hts : ∀ w ∈ Ts, w.before args s = true) (hin : ∀ w ∈ u_ws C T NN, w ∈ Ts) (hown : s.vm.findClass own = some m.cls) (hE : gE D cy base s) (hG : gH D base s ad N w H locs) {k : Nat} (hk : k < N) {fs : List Value} (he : w k = .inr (ci, fs)) (hc : vwCl[ci]? = some (C, T, NN)) (j : Nat) (hj : j < NN) (i : Nat) (hnest : gnest[i]? = some (.fieldLinkNest own index C (T j).2.1 (T j).2.2.1 host)) (hsame : (T j).1 = C) {v : Value} (hv : fs[j]? = some v) (hdg : decode cc pc = .ok (.getfield index, 3))
    (kk : W p l e R s m args below meth c H locs cells slots Q (F0 m (pc + 3) ls (v :: rest))) : W p l e R s m args below meth c H locs cells slots Q (F0 m pc ls (.ref (ad k) :: rest)) :=
  va_getN hx hb hts hin hown hE.1 hG.1 k (by rw [gl_at hk, he]) hc j hj (va_Nw.use rfl (hE.2.1 _ (List.mem_of_getElem? hnest))) (fun x h => by rw [hsame] at h; exact h) hv hdg kk
theorem gH_up {k : Nat} {e' : va_E} {H1 : Heap} {locs1 : List Loc} (hk : k < N) (h1 : va_P D vwCl ((gl ad N w).set k (ad k, e')) H1) (h2 : va_D (fun q => base ≤ q) ((gl ad N w).set k (ad k, e'))) (h3 : va_S (fun q => base ≤ q) s.heap H1 locs1) : gH D base s ad N (va_up w k e') H1 locs1 := by
  rw [gl_set e' hk] at h1 h2
  exact ⟨h1, h2, h3⟩
theorem g_put (hx : p.tables.exec = Jvm.exec) (hb : c.code = cc) {own C : String} {T : u_T} {NN ci index : Nat} {Ts : List Cond} (hts : ∀ w ∈ Ts, w.before args s = true) (hin : ∀ w ∈ u_ws C T NN, w ∈ Ts) (ty0 : Nat → FieldType) (hty : ∀ k, k < NN → parseFieldDescriptor (T k).2.2.1 = some (ty0 k)) (hnm : ∀ a, a < NN → ∀ b, b < NN → a ≠ b → (T a).2.1 ≠ (T b).2.1) (hown : s.vm.findClass own = some m.cls) (hE : gE D cy base s) (hG : gH D base s ad N w H locs) {k : Nat} (hk : k < N) {fs : List Value} (he : w k = .inr (ci, fs)) (hc : vwCl[ci]? = some (C, T, NN)) (j : Nat) (hj : j < NN) (hlink : (Cond.fieldLink own index C (T j).2.1 (T j).2.2.1).before args s = true) (hsame : (T j).1 = C) (hfin : (T j).2.2.2 = false) {ty : FieldType} {v : Value} (hd : parseFieldDescriptor (T j).2.2.1 = some ty) (hn : narrow ty v = v) (hfit : fits ty v = true) (hl : j < fs.length)
    (hdg : decode cc pc = .ok (.putfield index, 3)) (kk : ∀ (H : Heap) (locs : List Loc), gH D base s ad N (va_up w k (.inr (ci, fs.set j v))) H locs → W p l e R s m args below meth c H locs cells slots Q (F0 m (pc + 3) ls rest)) : W p l e R s m args below meth c H locs cells slots Q (F0 m pc ls (v :: .ref (ad k) :: rest)) :=
  va_put hx hb hts hin ty0 hty hnm hown hE.1 hG.1 hG.2.1 hG.2.2 k (by rw [gl_at hk, he]) hc j hj hlink (fun x h => by rw [hsame] at h; exact h) hfin hd hn hfit hl hdg (fun H1 locs1 h1 h2 h3 => kk H1 locs1 (gH_up hk h1 h2 h3))
theorem g_putN (hx : p.tables.exec = Jvm.exec) (hb : c.code = cc) {own C host : String} {T : u_T} {NN ci index : Nat} {Ts : List Cond} (hts : ∀ w ∈ Ts, w.before args s = true) (hin : ∀ w ∈ u_ws C T NN, w ∈ Ts) (ty0 : Nat → FieldType) (hty : ∀ k, k < NN → parseFieldDescriptor (T k).2.2.1 = some (ty0 k)) (hnm : ∀ a, a < NN → ∀ b, b < NN → a ≠ b → (T a).2.1 ≠ (T b).2.1) (hown : s.vm.findClass own = some m.cls) (hE : gE D cy base s) (hG : gH D base s ad N w H locs) {k : Nat} (hk : k < N) {fs : List Value} (he : w k = .inr (ci, fs)) (hc : vwCl[ci]? = some (C, T, NN)) (j : Nat) (hj : j < NN) (i : Nat) (hnest : gnest[i]? = some (.fieldLinkNest own index C (T j).2.1 (T j).2.2.1 host)) (hsame : (T j).1 = C) (hfin : (T j).2.2.2 = false) {ty : FieldType} {v : Value} (hd : parseFieldDescriptor (T j).2.2.1 = some ty) (hn : narrow ty v = v) (hfit : fits ty v = true) (hl : j < fs.length)
    (hdg : decode cc pc = .ok (.putfield index, 3)) (kk : ∀ (H : Heap) (locs : List Loc), gH D base s ad N (va_up w k (.inr (ci, fs.set j v))) H locs → W p l e R s m args below meth c H locs cells slots Q (F0 m (pc + 3) ls rest)) : W p l e R s m args below meth c H locs cells slots Q (F0 m pc ls (v :: .ref (ad k) :: rest)) :=
  va_putN hx hb hts hin ty0 hty hnm hown hE.1 hG.1 hG.2.1 hG.2.2 k (by rw [gl_at hk, he]) hc j hj (va_Nw.use rfl (hE.2.1 _ (List.mem_of_getElem? hnest))) (fun x h => by rw [hsame] at h; exact h) hfin hd hn hfit hl hdg (fun H1 locs1 h1 h2 h3 => kk H1 locs1 (gH_up hk h1 h2 h3))
/-- typed: an int field -/
theorem g_puti (hx : p.tables.exec = Jvm.exec) (hb : c.code = cc) {own C : String} {T : u_T} {NN ci index : Nat} {Ts : List Cond} (hts : ∀ w ∈ Ts, w.before args s = true) (hin : ∀ w ∈ u_ws C T NN, w ∈ Ts) (ty0 : Nat → FieldType) (hty : ∀ k, k < NN → parseFieldDescriptor (T k).2.2.1 = some (ty0 k)) (hnm : ∀ a, a < NN → ∀ b, b < NN → a ≠ b → (T a).2.1 ≠ (T b).2.1) (hown : s.vm.findClass own = some m.cls) (hE : gE D cy base s) (hG : gH D base s ad N (gw cy ad n A J) H locs) {k : Nat} (hk : k < N) {fs : List Value} (he : gw cy ad n A J k = .inr (ci, fs)) (hc : vwCl[ci]? = some (C, T, NN)) (j : Nat) (hj : j < NN) (hlink : (Cond.fieldLink own index C (T j).2.1 (T j).2.2.1).before args s = true) (hsame : (T j).1 = C) (hfin : (T j).2.2.2 = false) {ty : FieldType} {v : Int32} (hd : parseFieldDescriptor (T j).2.2.1 = some ty) (hn : narrow ty (.int v) = .int v) (hfit : fits ty (.int v) = true) (hl : j < fs.length) (he2 : gC cy ad n k (fun j' => if j' = j then v else A k j') (J k) = .inr (ci, fs.set j (.int v)))
    (hdg : decode cc pc = .ok (.putfield index, 3)) (kk : ∀ (H : Heap) (locs : List Loc), gH D base s ad N (gw cy ad n (gu A k j v) J) H locs → W p l e R s m args below meth c H locs cells slots Q (F0 m (pc + 3) ls rest)) : W p l e R s m args below meth c H locs cells slots Q (F0 m pc ls (.int v :: .ref (ad k) :: rest)) :=
  g_put hx hb hts hin ty0 hty hnm hown hE hG hk he hc j hj hlink hsame hfin hd hn hfit hl hdg (fun H1 locs1 h => kk H1 locs1 (h.to (gw_row he2)))
theorem g_putiN (hx : p.tables.exec = Jvm.exec) (hb : c.code = cc) {own C host : String} {T : u_T} {NN ci index : Nat} {Ts : List Cond} (hts : ∀ w ∈ Ts, w.before args s = true) (hin : ∀ w ∈ u_ws C T NN, w ∈ Ts) (ty0 : Nat → FieldType) (hty : ∀ k, k < NN → parseFieldDescriptor (T k).2.2.1 = some (ty0 k)) (hnm : ∀ a, a < NN → ∀ b, b < NN → a ≠ b → (T a).2.1 ≠ (T b).2.1) (hown : s.vm.findClass own = some m.cls) (hE : gE D cy base s) (hG : gH D base s ad N (gw cy ad n A J) H locs) {k : Nat} (hk : k < N) {fs : List Value} (he : gw cy ad n A J k = .inr (ci, fs)) (hc : vwCl[ci]? = some (C, T, NN)) (j : Nat) (hj : j < NN) (i : Nat) (hnest : gnest[i]? = some (.fieldLinkNest own index C (T j).2.1 (T j).2.2.1 host)) (hsame : (T j).1 = C) (hfin : (T j).2.2.2 = false) {ty : FieldType} {v : Int32} (hd : parseFieldDescriptor (T j).2.2.1 = some ty) (hn : narrow ty (.int v) = .int v) (hfit : fits ty (.int v) = true) (hl : j < fs.length) (he2 : gC cy ad n k (fun j' => if j' = j then v else A k j') (J k) = .inr (ci, fs.set j (.int v)))
    (hdg : decode cc pc = .ok (.putfield index, 3)) (kk : ∀ (H : Heap) (locs : List Loc), gH D base s ad N (gw cy ad n (gu A k j v) J) H locs → W p l e R s m args below meth c H locs cells slots Q (F0 m (pc + 3) ls rest)) : W p l e R s m args below meth c H locs cells slots Q (F0 m pc ls (.int v :: .ref (ad k) :: rest)) :=
  g_putN hx hb hts hin ty0 hty hnm hown hE hG hk he hc j hj i hnest hsame hfin hd hn hfit hl hdg (fun H1 locs1 h => kk H1 locs1 (h.to (gw_row he2)))
theorem g_putl (hx : p.tables.exec = Jvm.exec) (hb : c.code = cc) {own C : String} {T : u_T} {NN ci index : Nat} {Ts : List Cond} (hts : ∀ w ∈ Ts, w.before args s = true) (hin : ∀ w ∈ u_ws C T NN, w ∈ Ts) (ty0 : Nat → FieldType) (hty : ∀ k, k < NN → parseFieldDescriptor (T k).2.2.1 = some (ty0 k)) (hnm : ∀ a, a < NN → ∀ b, b < NN → a ≠ b → (T a).2.1 ≠ (T b).2.1) (hown : s.vm.findClass own = some m.cls) (hE : gE D cy base s) (hG : gH D base s ad N (gw cy ad n A J) H locs) {k : Nat} (hk : k < N) {fs : List Value} (he : gw cy ad n A J k = .inr (ci, fs)) (hc : vwCl[ci]? = some (C, T, NN)) (j : Nat) (hj : j < NN) (hlink : (Cond.fieldLink own index C (T j).2.1 (T j).2.2.1).before args s = true) (hsame : (T j).1 = C) (hfin : (T j).2.2.2 = false) {v : Int64} (hd : parseFieldDescriptor (T j).2.2.1 = some .long) (hl : j < fs.length) (he2 : gC cy ad n k (A k) (fun j' => if j' = j then v else J k j') = .inr (ci, fs.set j (.long v)))
    (hdg : decode cc pc = .ok (.putfield index, 3)) (kk : ∀ (H : Heap) (locs : List Loc), gH D base s ad N (gw cy ad n A (gu J k j v)) H locs → W p l e R s m args below meth c H locs cells slots Q (F0 m (pc + 3) ls rest)) : W p l e R s m args below meth c H locs cells slots Q (F0 m pc ls (.long v :: .ref (ad k) :: rest)) :=
  g_put hx hb hts hin ty0 hty hnm hown hE hG hk he hc j hj hlink hsame hfin (v := .long v) hd rfl rfl hl hdg (fun H1 locs1 h => kk H1 locs1 (h.to (gw_rowJ he2)))
/-- arrays -/
theorem g_iald (hx : p.tables.exec = Jvm.exec) (hb : c.code = cc) (hE : gE D cy base s) (hG : gH D base s ad N (gw cy ad n A J) H locs) {k : Nat} (hk : k < N) {nn : Nat} (he : gw cy ad n A J k = .inl (cy 0, nn, .inl (A k))) (i : Nat) {x : Int32} (hx2 : x = nI i) (hi : i < nn) (hnn : nn < 2 ^ 31) (hdg : decode cc pc = .ok (.iaload, 1))
    (kk : W p l e R s m args below meth c H locs cells slots Q (F0 m (pc + 1) ls (.int (A k i) :: rest))) : W p l e R s m args below meth c H locs cells slots Q (F0 m pc ls (.int x :: .ref (ad k) :: rest)) := by
  subst hx2
  refine va_iald hx hb hE.1 hG.1 k 0 (by rw [gl_at hk, he]) rfl (vp_in_nI hi hnn) hdg ?_
  rw [nI_clamp (by omega)]
  exact kk
theorem g_zald (hx : p.tables.exec = Jvm.exec) (hb : c.code = cc) (hE : gE D cy base s) (hG : gH D base s ad N (gw cy ad n A J) H locs) {k : Nat} (hk : k < N) {nn : Nat} (he : gw cy ad n A J k = .inl (cy 2, nn, .inl (A k))) (i : Nat) {x : Int32} (hx2 : x = nI i) (hi : i < nn) (hnn : nn < 2 ^ 31) (hdg : decode cc pc = .ok (.baload, 1))
    (kk : W p l e R s m args below meth c H locs cells slots Q (F0 m (pc + 1) ls (.int (A k i) :: rest))) : W p l e R s m args below meth c H locs cells slots Q (F0 m pc ls (.int x :: .ref (ad k) :: rest)) := by
  subst hx2
  refine va_zald hx hb hE.1 hG.1 k 2 (by rw [gl_at hk, he]) rfl (vp_in_nI hi hnn) hdg ?_
  rw [nI_clamp (by omega)]
  exact kk
theorem g_lald (hx : p.tables.exec = Jvm.exec) (hb : c.code = cc) (hE : gE D cy base s) (hG : gH D base s ad N (gw cy ad n A J) H locs) {k : Nat} (hk : k < N) {nn : Nat} (he : gw cy ad n A J k = .inl (cy 1, nn, .inr (.inl (J k)))) (i : Nat) {x : Int32} (hx2 : x = nI i) (hi : i < nn) (hnn : nn < 2 ^ 31) (hdg : decode cc pc = .ok (.laload, 1))
    (kk : W p l e R s m args below meth c H locs cells slots Q (F0 m (pc + 1) ls (.long (J k i) :: rest))) : W p l e R s m args below meth c H locs cells slots Q (F0 m pc ls (.int x :: .ref (ad k) :: rest)) := by
  subst hx2
  refine va_lald hx hb hE.1 hG.1 k 1 (by rw [gl_at hk, he]) rfl (vp_in_nI hi hnn) hdg ?_
  rw [nI_clamp (by omega)]
  exact kk
theorem g_iast (hx : p.tables.exec = Jvm.exec) (hb : c.code = cc) (hE : gE D cy base s) (hG : gH D base s ad N (gw cy ad n A J) H locs) {k : Nat} (hk : k < N) {nn : Nat} (he : ∀ f, gC cy ad n k f (J k) = .inl (cy 0, nn, .inl f)) (i : Nat) {x v : Int32} (hx2 : x = nI i) (hi : i < nn) (hnn : nn < 2 ^ 31) (hdg : decode cc pc = .ok (.iastore, 1))
    (kk : ∀ (H : Heap) (locs : List Loc), gH D base s ad N (gw cy ad n (gu A k i v) J) H locs → W p l e R s m args below meth c H locs cells slots Q (F0 m (pc + 1) ls rest)) : W p l e R s m args below meth c H locs cells slots Q (F0 m pc ls (.int v :: .int x :: .ref (ad k) :: rest)) := by
  subst hx2
  refine va_iast hx hb hE.1 hG.1 hG.2.1 hG.2.2 k 0 (by rw [gl_at hk]; exact congrArg some (congrArg (Prod.mk (ad k)) (he (A k)))) rfl (vp_in_nI hi hnn) hdg (fun H1 locs1 h1 h2 h3 => kk H1 locs1 ((gH_up hk h1 h2 h3).to (gw_row (f := fun j' => if j' = i then v else A k j') ?_)))
  rw [he, nI_clamp (by omega)]
  rfl
theorem g_zast (hx : p.tables.exec = Jvm.exec) (hb : c.code = cc) (hE : gE D cy base s) (hG : gH D base s ad N (gw cy ad n A J) H locs) {k : Nat} (hk : k < N) {nn : Nat} (he : ∀ f, gC cy ad n k f (J k) = .inl (cy 2, nn, .inl f)) (i : Nat) {x v : Int32} (hv : vp_nar .boolean v = v) (hx2 : x = nI i) (hi : i < nn) (hnn : nn < 2 ^ 31) (hdg : decode cc pc = .ok (.bastore, 1))
    (kk : ∀ (H : Heap) (locs : List Loc), gH D base s ad N (gw cy ad n (gu A k i v) J) H locs → W p l e R s m args below meth c H locs cells slots Q (F0 m (pc + 1) ls rest)) : W p l e R s m args below meth c H locs cells slots Q (F0 m pc ls (.int v :: .int x :: .ref (ad k) :: rest)) := by
  subst hx2
  refine va_zast hx hb hE.1 hG.1 hG.2.1 hG.2.2 k 2 (by rw [gl_at hk]; exact congrArg some (congrArg (Prod.mk (ad k)) (he (A k)))) rfl (vp_in_nI hi hnn) hdg (fun H1 locs1 h1 h2 h3 => kk H1 locs1 ((gH_up hk h1 h2 h3).to (gw_row (f := fun j' => if j' = i then v else A k j') ?_)))
  rw [he, nI_clamp (by omega), hv]
  rfl
theorem g_last (hx : p.tables.exec = Jvm.exec) (hb : c.code = cc) (hE : gE D cy base s) (hG : gH D base s ad N (gw cy ad n A J) H locs) {k : Nat} (hk : k < N) {nn : Nat} (he : ∀ f, gC cy ad n k (A k) f = .inl (cy 1, nn, .inr (.inl f))) (i : Nat) {x : Int32} {v : Int64} (hx2 : x = nI i) (hi : i < nn) (hnn : nn < 2 ^ 31) (hdg : decode cc pc = .ok (.lastore, 1))
    (kk : ∀ (H : Heap) (locs : List Loc), gH D base s ad N (gw cy ad n A (gu J k i v)) H locs → W p l e R s m args below meth c H locs cells slots Q (F0 m (pc + 1) ls rest)) : W p l e R s m args below meth c H locs cells slots Q (F0 m pc ls (.long v :: .int x :: .ref (ad k) :: rest)) := by
  subst hx2
  refine va_last hx hb hE.1 hG.1 hG.2.1 hG.2.2 k 1 (by rw [gl_at hk]; exact congrArg some (congrArg (Prod.mk (ad k)) (he (J k)))) rfl (vp_in_nI hi hnn) hdg (fun H1 locs1 h1 h2 h3 => kk H1 locs1 ((gH_up hk h1 h2 h3).to (gw_rowJ (f := fun j' => if j' = i then v else J k j') ?_)))
  rw [he, nI_clamp (by omega)]
  rfl
theorem g_aald (hx : p.tables.exec = Jvm.exec) (hb : c.code = cc) (hE : gE D cy base s) (hG : gH D base s ad N w H locs) {k : Nat} (hk : k < N) {t0 nn : Nat} {cA : ClassId} {C : String} {f : Nat → Option Nat} (he : w k = .inl (cA, nn, .inr (.inr (.inr (.inr f))))) (ht : (gty cy)[t0]? = some (cA, .object C)) (i : Nat) {x : Int32} (hx2 : x = nI i) (hi : i < nn) (hnn : nn < 2 ^ 31) (hdg : decode cc pc = .ok (.aaload, 1)) {v : Value} (hv : va_rf (f i) = v)
    (kk : W p l e R s m args below meth c H locs cells slots Q (F0 m (pc + 1) ls (v :: rest))) : W p l e R s m args below meth c H locs cells slots Q (F0 m pc ls (.int x :: .ref (ad k) :: rest)) := by
  subst hx2
  refine va_aldq hx hb hE.1 hG.1 k t0 (by rw [gl_at hk, he]) ht (vp_in_nI hi hnn) hdg ?_
  rw [nI_clamp (by omega), hv]
  exact kk
theorem g_alen (hx : p.tables.exec = Jvm.exec) (hb : c.code = cc) (hE : gE D cy base s) (hG : gH D base s ad N w H locs) {k : Nat} (hk : k < N) {t0 : Nat} {cA : ClassId} {x : vp_A} {ty : FieldType} (he : w k = .inl (cA, x)) (ht : (gty cy)[t0]? = some (cA, ty)) {v : Int32} (hv : Int32.ofNat x.1 = v) (hdg : decode cc pc = .ok (.arraylength, 1))
    (kk : W p l e R s m args below meth c H locs cells slots Q (F0 m (pc + 1) ls (.int v :: rest))) : W p l e R s m args below meth c H locs cells slots Q (F0 m pc ls (.ref (ad k) :: rest)) :=
  va_alen hx hb hE.1 hG.1 k t0 (by rw [gl_at hk, he]) ht hv hdg kk
/-- a computed number under another name -/
theorem g_top {x y : Int32} (h : x = y) (k : W p l e R s m args below meth c H locs cells slots Q (F0 m pc ls (.int y :: rest))) : W p l e R s m args below meth c H locs cells slots Q (F0 m pc ls (.int x :: rest)) := by
  subst h; exact k
theorem g_topl {x y : Int64} (h : x = y) (k : W p l e R s m args below meth c H locs cells slots Q (F0 m pc ls (.long y :: rest))) : W p l e R s m args below meth c H locs cells slots Q (F0 m pc ls (.long x :: rest)) := by
  subst h; exact k
/-- ends -/
theorem g_iret {post : Option Value → gS → Prop} {v : Int32} (hx : p.tables.exec = Jvm.exec) (hb : c.code = cc) (hr : meth.sig.returnType = some .int) (hlocks : meth.locks = false) (hG : gH D base s ad (50 + 2 * n) (gw cy ad n A J) H locs) (hp : post (some (.int v)) (A, J)) (hdg : decode cc pc = .ok (.ireturn, 1)) :
    W p l e R s m args below meth c H locs 0 0 (MQ below (gPost D cy base ad n post) args s 0 0 (fun q => base ≤ q)) (F0 m pc ls [.int v]) :=
  W.iret hx hb hr (fun t ht _ => ⟨⟨_, (A, J), rfl, hp, by show va_P _ _ _ t.heap; rw [ht]; exact hG.1⟩, hG.2.2.F ht⟩) hG.2.2.2.2 hdg hlocks
theorem g_zret {post : Option Value → gS → Prop} {v : Int32} (hx : p.tables.exec = Jvm.exec) (hb : c.code = cc) (hr : meth.sig.returnType = some .boolean) (hlocks : meth.locks = false) (hG : gH D base s ad (50 + 2 * n) (gw cy ad n A J) H locs) (hn : narrow .boolean (.int v) = .int v) (hp : post (some (.int v)) (A, J)) (hdg : decode cc pc = .ok (.ireturn, 1)) :
    W p l e R s m args below meth c H locs 0 0 (MQ below (gPost D cy base ad n post) args s 0 0 (fun q => base ≤ q)) (F0 m pc ls [.int v]) :=
  W.zret hx hb hr hn (fun t ht _ => ⟨⟨_, (A, J), rfl, hp, by show va_P _ _ _ t.heap; rw [ht]; exact hG.1⟩, hG.2.2.F ht⟩) hG.2.2.2.2 hdg hlocks
theorem g_lret {post : Option Value → gS → Prop} {v : Int64} (hx : p.tables.exec = Jvm.exec) (hb : c.code = cc) (hr : meth.sig.returnType = some .long) (hlocks : meth.locks = false) (hG : gH D base s ad (50 + 2 * n) (gw cy ad n A J) H locs) (hp : post (some (.long v)) (A, J)) (hdg : decode cc pc = .ok (.lreturn, 1)) :
    W p l e R s m args below meth c H locs 0 0 (MQ below (gPost D cy base ad n post) args s 0 0 (fun q => base ≤ q)) (F0 m pc ls [.long v]) :=
  W.lret hx hb hr (fun t ht _ => ⟨⟨_, (A, J), rfl, hp, by show va_P _ _ _ t.heap; rw [ht]; exact hG.1⟩, hG.2.2.F ht⟩) hG.2.2.2.2 hdg hlocks
theorem g_vret {post : Option Value → gS → Prop} (hx : p.tables.exec = Jvm.exec) (hb : c.code = cc) (hr : meth.sig.returnType = none) (hlocks : meth.locks = false) (hG : gH D base s ad (50 + 2 * n) (gw cy ad n A J) H locs) (hp : post none (A, J)) (hdg : decode cc pc = .ok (.return_, 1)) :
    W p l e R s m args below meth c H locs 0 0 (MQ below (gPost D cy base ad n post) args s 0 0 (fun q => base ≤ q)) (F0 m pc ls []) :=
  W.vret hx hb hr (fun t ht _ => ⟨⟨_, (A, J), rfl, hp, by show va_P _ _ _ t.heap; rw [ht]; exact hG.1⟩, hG.2.2.F ht⟩) hG.2.2.2.2 hdg hlocks
theorem g_aret {post : Option Value → gS → Prop} {v : Value} {nm : String} (hx : p.tables.exec = Jvm.exec) (hb : c.code = cc) (hr : meth.sig.returnType = some (.object nm)) (hlocks : meth.locks = false) (hv : v = .null ∨ ∃ a, v = .ref a) (hG : gH D base s ad (50 + 2 * n) (gw cy ad n A J) H locs) (hp : post (some v) (A, J)) (hdg : decode cc pc = .ok (.areturn, 1)) :
    W p l e R s m args below meth c H locs 0 0 (MQ below (gPost D cy base ad n post) args s 0 0 (fun q => base ≤ q)) (F0 m pc ls [v]) :=
  W.aret hx hb hr (Or.inl ⟨nm, rfl⟩) hv (fun t ht _ => ⟨⟨_, (A, J), rfl, hp, by show va_P _ _ _ t.heap; rw [ht]; exact hG.1⟩, hG.2.2.F ht⟩) hG.2.2.2.2 hdg hlocks
/-- calls -/
theorem g_fin {S : Type} {post : Option Value → S → Prop} {B : S → State → Prop} {a : Array Value} {mc ms : Nat} {st0 : List Value} (hr : va_Run p l e R s m args below meth c H locs cells slots mc ms (F0 m pc ls st0) rest (gQc post B (fun q => base ≤ q) a) (fun q => base ≤ q)) (hS : va_S (fun q => base ≤ q) s.heap H locs)
    (kk : ∀ (v : Option Value) (u : S) (t : State) (H1 : Heap) (locs1 : List Loc), t.heap = H1 → post v u → B u t → H.size ≤ H1.size → va_S (fun q => base ≤ q) s.heap H1 locs1 → W p l e R s m args below meth c H1 locs1 (cells + mc) (slots + ms) Q (F0 m (pc + 3) ls (v.toList ++ rest))) : W p l e R s m args below meth c H locs cells slots Q (F0 m pc ls st0) := by
  intro T hT X
  obtain ⟨v, st₀, t, T', L, h0, X', hL, e1, e2, ⟨⟨v', u, hv, hp, hb⟩, hz, hk⟩, st⟩ := hr T hT X
  cases hv
  rw [h0] at hz hk
  obtain ⟨t2, a1, b1⟩ := kk v u t T'.heap (locs ++ L) e1.symm hp hb (by rw [e1]; exact hz)
    ⟨Nat.le_trans hS.1 (by rw [e1]; exact hz), fun q h1 h2 => by rw [e1, hk q (Nat.lt_of_lt_of_le h1 hS.1) h2]; exact hS.2.1 q h1 h2, fun q hq => by
      rcases List.mem_append.mp hq with h | h
      · exact hS.2.2 q h
      · exact hL q h⟩ T' rfl X'
  exact ⟨t2, st t2 a1, b1⟩
theorem g_recv (hE : gE D cy base s) (hG : gH D base s ad N w H locs) {k : Nat} (hk : k < N) {ci : Nat} {fs : List Value} (he : w k = .inr (ci, fs)) {r : vw_C} (hc : vwCl[ci]? = some r) : ∃ cell : Cell, H[ad k]? = some cell ∧ cell.vm.isStatics = false ∧ s.vm.findClass r.1 = some cell.cls :=
  va_recv hE.1 hG.1 hc (q0 := k) (fs := fs) (by rw [gl_at hk, he])
theorem g_pre (hE : gE D cy base s) (hG : gH D base s ad N w H locs) (As : List Value) : PreS s H (gPre D cy base ad N w As) As :=
  ⟨gPre.blind, fun U hU hW => ⟨rfl, hE.warm hG.2.2 hU hW, by rw [hU]; exact hG.1, hG.2.1⟩⟩
theorem g_callV {y : MethodName} {bytes : ByteArray} {maxL nL nn index : Nat} {ret : Option FieldType} {ws : List Cond} {rm : Room} {Ts : List Cond} {own : String} {As st0 : List Value} {post : Option Value → gS → Prop} {k : Nat} {r : vw_C} {ci : Nat} {fs : List Value}
    (S : CallFix p m c cc nL s args Ts own) (hE : gE D cy base s) (hG : gH D base s ad (50 + 2 * n) (gw cy ad n A J) H locs) (hM : gMet l y ws rm D cy base ad n A J (.ref (ad k) :: As) post) (cw : CallW R s args own r.1 index y bytes maxL ret ws rm 0 0 nn) (hk : k < 50 + 2 * n) (he : gw cy ad n A J k = .inr (ci, fs)) (hc : vwCl[ci]? = some r)
    (hn : As.length = nn) (hsize : ls.size = nL) (hst : st0 = As.reverse ++ .ref (ad k) :: rest) (hW : (rest.map fun v => v.category).sum ≤ 8) (hdg : decode cc pc = .ok (.invokevirtual index, 3)) (hf : cells ≤ R.cells ∧ slots ≤ R.slots)
    (kk : ∀ (v : Option Value) (A : Nat → Nat → Int32) (J : Nat → Nat → Int64) (H : Heap) (locs : List Loc), post v (A, J) → gH D base s ad (50 + 2 * n) (gw cy ad n A J) H locs → W p l e R s m args below meth c H locs cells slots Q (F0 m (pc + 3) ls (v.toList ++ rest))) : W p l e R s m args below meth c H locs cells slots Q (F0 m pc ls st0) := by
  have hP := g_pre hE hG (.ref (ad k) :: As)
  refine g_fin (rest := rest) (mc := 0) (ms := 0) (va_runV (C := r.1) (b := ad k) (As := As) (rest := rest) (g := F0 m pc ls st0) S hM cw ⟨hP.1, g_recv hE hG hk he hc, hP.2⟩ rfl hn hsize hst (by show 2 * 0 + _ ≤ 8; omega) hdg hf) hG.2.2 (fun v u t H1 locs1 ht hp hB hz hS => ?_)
  exact kk v u.1 u.2 H1 locs1 hp ⟨by rw [← ht]; exact hB, gl_D hG.2.1, hS⟩
theorem g_callS {y : MethodName} {bytes : ByteArray} {maxL nL nn index : Nat} {ret : Option FieldType} {ws : List Cond} {rm : Room} {Ts : List Cond} {own : String} {As st0 : List Value} {post : Option Value → gS → Prop}
    (S : CallFix p m c cc nL s args Ts own) (hE : gE D cy base s) (hG : gH D base s ad (50 + 2 * n) (gw cy ad n A J) H locs) (hM : gMet l y ws rm D cy base ad n A J As post) (cw : CallB R s args own index y bytes maxL ret ws rm 0 0 nn ∧ (Cond.static y).before args s = true)
    (hn : As.length = nn) (hsize : ls.size = nL) (hst : st0 = As.reverse ++ rest) (hW : (rest.map fun v => v.category).sum ≤ 8) (hdg : decode cc pc = .ok (.invokestatic index, 3)) (hf : cells ≤ R.cells ∧ slots ≤ R.slots)
    (kk : ∀ (v : Option Value) (A : Nat → Nat → Int32) (J : Nat → Nat → Int64) (H : Heap) (locs : List Loc), post v (A, J) → gH D base s ad (50 + 2 * n) (gw cy ad n A J) H locs → W p l e R s m args below meth c H locs cells slots Q (F0 m (pc + 3) ls (v.toList ++ rest))) : W p l e R s m args below meth c H locs cells slots Q (F0 m pc ls st0) := by
  refine g_fin (rest := rest) (mc := 0) (ms := 0) (va_runS (As := As) (rest := rest) (g := F0 m pc ls st0) S hM cw (g_pre hE hG As) rfl hn hsize hst (by show 2 * 0 + _ ≤ 8; omega) hdg hf) hG.2.2 (fun v u t H1 locs1 ht hp hB hz hS => ?_)
  exact kk v u.1 u.2 H1 locs1 hp ⟨by rw [← ht]; exact hB, gl_D hG.2.1, hS⟩
end GR
/-- a method's body: what it may take for granted -/
theorem g_ofW {l : Launch} {y : MethodName} {ws ws' : List Cond} {rm : Room} {D : va_G} {cy : Nat → ClassId} {base : Nat} {ad : Nat → Nat} {n : Nat} {A : Nat → Nat → Int32} {J : Nat → Nat → Int64} {av : List Value} {post : Option Value → gS → Prop} {cc : ByteArray} {maxL : Nat} {ret : Option FieldType}
    (hy : plainName y.cls = true) (hw : ws = Cond.code y cc maxL ret :: ws') (hlen : (lg_sl av).length ≤ maxL)
    (body : ∀ (p : Program) (e : Env) (s : State) (m : MethodId) (args : Array Value) (below : List Frame) (meth : Method) (c : Code) (H : Heap) (locs : List Loc) (ls : Array Slot), p.tables.exec = Jvm.exec → c.code = cc → meth.sig.returnType = ret → (∀ w ∈ ws, w.before args s = true) → s.vm.findClass y.cls = some m.cls → meth.locks = false → c.maxLocals = maxL → gE D cy base s → gH D base s ad (50 + 2 * n) (gw cy ad n A J) H locs → lv_has ls maxL (lv_args 0 av) →
      W p l e rm s m args below meth c H locs 0 0 (MQ below (gPost D cy base ad n post) args s 0 0 (fun q => base ≤ q)) (F0 m 0 ls [])) : gMet l y ws rm D cy base ad n A J av post := by
  refine Met.ofW (cc := cc) (maxL := maxL) (ret := ret) hy hw ?_
  intro p e s m args below meth c s₁ B hml hv
  obtain ⟨rfl, hE, hP, hD⟩ := hv
  rw [lg_entry_eq]
  exact body p e s m av.toArray below meth c s.heap [] _ B.exec B.bytes B.returns (atoms_spec (ws := ws) B.pre) (findClass_of_methodNamed B.named) B.notSynchronized hml hE ⟨hP, hD, va_S.rf⟩ (lv_entry av hlen)
end
